theorem k_372 : (Cond.code yX11_feed cX11_feed 6 (some .int)) ∈ TBg := tb_mem 453 (by decide +kernel) (by decide +kernel)
theorem k_373 : (Cond.methodLink RL 13 yX11_feed) ∈ TBg := tb_mem 450 (by decide +kernel) (by decide +kernel)
theorem k_374 : (Cond.instanceMethod yX11_feed) ∈ TBg := tb_mem 451 (by decide +kernel) (by decide +kernel)
theorem k_375 : (Cond.selects RX11 yX11_feed yX11_feed) ∈ TBg := tb_mem 452 (by decide +kernel) (by decide +kernel)
theorem k_376 : (Cond.code yX12_feed cX12_feed 8 (some .int)) ∈ TBg := tb_mem 1561 (by decide +kernel) (by decide +kernel)
theorem k_377 : (Cond.methodLink RL 17 yX12_feed) ∈ TBg := tb_mem 1558 (by decide +kernel) (by decide +kernel)
theorem k_378 : (Cond.instanceMethod yX12_feed) ∈ TBg := tb_mem 1559 (by decide +kernel) (by decide +kernel)
theorem k_379 : (Cond.selects RX12 yX12_feed yX12_feed) ∈ TBg := tb_mem 1560 (by decide +kernel) (by decide +kernel)
theorem k_380 : (Cond.code yX11_end cX11_end 2 (some .int)) ∈ TBg := tb_mem 461 (by decide +kernel) (by decide +kernel)
theorem k_381 : (Cond.methodLink RL 18 yX11_end) ∈ TBg := tb_mem 458 (by decide +kernel) (by decide +kernel)
theorem k_382 : (Cond.instanceMethod yX11_end) ∈ TBg := tb_mem 459 (by decide +kernel) (by decide +kernel)
theorem k_383 : (Cond.selects RX11 yX11_end yX11_end) ∈ TBg := tb_mem 460 (by decide +kernel) (by decide +kernel)
theorem k_384 : (Cond.code yX12_end cX12_end 2 (some .int)) ∈ TBg := tb_mem 1565 (by decide +kernel) (by decide +kernel)
theorem k_385 : (Cond.methodLink RL 22 yX12_end) ∈ TBg := tb_mem 1562 (by decide +kernel) (by decide +kernel)
theorem k_386 : (Cond.instanceMethod yX12_end) ∈ TBg := tb_mem 1563 (by decide +kernel) (by decide +kernel)
theorem k_387 : (Cond.selects RX12 yX12_end yX12_end) ∈ TBg := tb_mem 1564 (by decide +kernel) (by decide +kernel)
theorem k_388 : (Cond.code yX11_town cX11_town 5 (some .int)) ∈ TBg := tb_mem 465 (by decide +kernel) (by decide +kernel)
theorem k_389 : (Cond.methodLink RL 23 yX11_town) ∈ TBg := tb_mem 462 (by decide +kernel) (by decide +kernel)
theorem k_390 : (Cond.instanceMethod yX11_town) ∈ TBg := tb_mem 463 (by decide +kernel) (by decide +kernel)
theorem k_391 : (Cond.selects RX11 yX11_town yX11_town) ∈ TBg := tb_mem 464 (by decide +kernel) (by decide +kernel)
theorem k_392 : (Cond.code yX12_town cX12_town 2 (some .int)) ∈ TBg := tb_mem 1195 (by decide +kernel) (by decide +kernel)
theorem k_393 : (Cond.methodLink RL 27 yX12_town) ∈ TBg := tb_mem 1192 (by decide +kernel) (by decide +kernel)
theorem k_394 : (Cond.instanceMethod yX12_town) ∈ TBg := tb_mem 1193 (by decide +kernel) (by decide +kernel)
theorem k_395 : (Cond.selects RX12 yX12_town yX12_town) ∈ TBg := tb_mem 1194 (by decide +kernel) (by decide +kernel)
theorem k_396 : (Cond.code yX11_fault cX11_fault 2 (some .int)) ∈ TBg := tb_mem 759 (by decide +kernel) (by decide +kernel)
theorem k_397 : (Cond.methodLink RL 28 yX11_fault) ∈ TBg := tb_mem 756 (by decide +kernel) (by decide +kernel)
theorem k_398 : (Cond.instanceMethod yX11_fault) ∈ TBg := tb_mem 757 (by decide +kernel) (by decide +kernel)
theorem k_399 : (Cond.selects RX11 yX11_fault yX11_fault) ∈ TBg := tb_mem 758 (by decide +kernel) (by decide +kernel)
theorem k_400 : (Cond.code yX12_fault cX12_fault 2 (some .int)) ∈ TBg := tb_mem 1326 (by decide +kernel) (by decide +kernel)
theorem k_401 : (Cond.methodLink RL 31 yX12_fault) ∈ TBg := tb_mem 1323 (by decide +kernel) (by decide +kernel)
theorem k_402 : (Cond.instanceMethod yX12_fault) ∈ TBg := tb_mem 1324 (by decide +kernel) (by decide +kernel)
theorem k_403 : (Cond.selects RX12 yX12_fault yX12_fault) ∈ TBg := tb_mem 1325 (by decide +kernel) (by decide +kernel)
theorem k_404 : (Cond.code yX11_notes cX11_notes 2 (some .int)) ∈ TBg := tb_mem 763 (by decide +kernel) (by decide +kernel)
theorem k_405 : (Cond.methodLink RL 32 yX11_notes) ∈ TBg := tb_mem 760 (by decide +kernel) (by decide +kernel)
theorem k_406 : (Cond.instanceMethod yX11_notes) ∈ TBg := tb_mem 761 (by decide +kernel) (by decide +kernel)
theorem k_407 : (Cond.selects RX11 yX11_notes yX11_notes) ∈ TBg := tb_mem 762 (by decide +kernel) (by decide +kernel)
theorem k_408 : (Cond.code yX12_notes cX12_notes 2 (some .int)) ∈ TBg := tb_mem 1330 (by decide +kernel) (by decide +kernel)
theorem k_409 : (Cond.methodLink RL 35 yX12_notes) ∈ TBg := tb_mem 1327 (by decide +kernel) (by decide +kernel)
theorem k_410 : (Cond.instanceMethod yX12_notes) ∈ TBg := tb_mem 1328 (by decide +kernel) (by decide +kernel)
theorem k_411 : (Cond.selects RX12 yX12_notes yX12_notes) ∈ TBg := tb_mem 1329 (by decide +kernel) (by decide +kernel)
theorem k_412 : (Cond.code yX11_step cX11_step 3 (some .int)) ∈ TBg := tb_mem 771 (by decide +kernel) (by decide +kernel)
theorem k_413 : (Cond.methodLink RL 36 yX11_step) ∈ TBg := tb_mem 768 (by decide +kernel) (by decide +kernel)
theorem k_414 : (Cond.instanceMethod yX11_step) ∈ TBg := tb_mem 769 (by decide +kernel) (by decide +kernel)
theorem k_415 : (Cond.selects RX11 yX11_step yX11_step) ∈ TBg := tb_mem 770 (by decide +kernel) (by decide +kernel)
theorem k_416 : (Cond.code yX12_step cX12_step 3 (some .int)) ∈ TBg := tb_mem 1349 (by decide +kernel) (by decide +kernel)
theorem k_417 : (Cond.methodLink RL 40 yX12_step) ∈ TBg := tb_mem 1346 (by decide +kernel) (by decide +kernel)
theorem k_418 : (Cond.instanceMethod yX12_step) ∈ TBg := tb_mem 1347 (by decide +kernel) (by decide +kernel)
theorem k_419 : (Cond.selects RX12 yX12_step yX12_step) ∈ TBg := tb_mem 1348 (by decide +kernel) (by decide +kernel)
theorem k_420 : (Cond.code yX11_off cX11_off 4 (some .int)) ∈ TBg := tb_mem 777 (by decide +kernel) (by decide +kernel)
theorem k_421 : (Cond.methodLink RL 41 yX11_off) ∈ TBg := tb_mem 774 (by decide +kernel) (by decide +kernel)
theorem k_422 : (Cond.instanceMethod yX11_off) ∈ TBg := tb_mem 775 (by decide +kernel) (by decide +kernel)
theorem k_423 : (Cond.selects RX11 yX11_off yX11_off) ∈ TBg := tb_mem 776 (by decide +kernel) (by decide +kernel)
theorem k_424 : (Cond.code yX12_off cX12_off 4 (some .int)) ∈ TBg := tb_mem 1358 (by decide +kernel) (by decide +kernel)
theorem k_425 : (Cond.methodLink RL 45 yX12_off) ∈ TBg := tb_mem 1355 (by decide +kernel) (by decide +kernel)
theorem k_426 : (Cond.instanceMethod yX12_off) ∈ TBg := tb_mem 1356 (by decide +kernel) (by decide +kernel)
theorem k_427 : (Cond.selects RX12 yX12_off yX12_off) ∈ TBg := tb_mem 1357 (by decide +kernel) (by decide +kernel)
theorem k_428 : (Cond.code yX11_in cX11_in 4 (some .int)) ∈ TBg := tb_mem 782 (by decide +kernel) (by decide +kernel)
theorem k_429 : (Cond.methodLink RL 46 yX11_in) ∈ TBg := tb_mem 779 (by decide +kernel) (by decide +kernel)
theorem k_430 : (Cond.instanceMethod yX11_in) ∈ TBg := tb_mem 780 (by decide +kernel) (by decide +kernel)
theorem k_431 : (Cond.selects RX11 yX11_in yX11_in) ∈ TBg := tb_mem 781 (by decide +kernel) (by decide +kernel)
theorem k_432 : (Cond.code yX12_in cX12_in 4 (some .int)) ∈ TBg := tb_mem 1373 (by decide +kernel) (by decide +kernel)
theorem k_433 : (Cond.methodLink RL 49 yX12_in) ∈ TBg := tb_mem 1370 (by decide +kernel) (by decide +kernel)
theorem k_434 : (Cond.instanceMethod yX12_in) ∈ TBg := tb_mem 1371 (by decide +kernel) (by decide +kernel)
theorem k_435 : (Cond.selects RX12 yX12_in yX12_in) ∈ TBg := tb_mem 1372 (by decide +kernel) (by decide +kernel)
theorem k_436 : (Cond.code yX11_doors cX11_doors 5 (some .int)) ∈ TBg := tb_mem 794 (by decide +kernel) (by decide +kernel)
theorem k_437 : (Cond.methodLink RL 50 yX11_doors) ∈ TBg := tb_mem 791 (by decide +kernel) (by decide +kernel)
theorem k_438 : (Cond.instanceMethod yX11_doors) ∈ TBg := tb_mem 792 (by decide +kernel) (by decide +kernel)
theorem k_439 : (Cond.selects RX11 yX11_doors yX11_doors) ∈ TBg := tb_mem 793 (by decide +kernel) (by decide +kernel)
theorem k_440 : (Cond.code yX12_doors cX12_doors 5 (some .int)) ∈ TBg := tb_mem 1389 (by decide +kernel) (by decide +kernel)
theorem k_441 : (Cond.methodLink RL 54 yX12_doors) ∈ TBg := tb_mem 1386 (by decide +kernel) (by decide +kernel)
theorem k_442 : (Cond.instanceMethod yX12_doors) ∈ TBg := tb_mem 1387 (by decide +kernel) (by decide +kernel)
theorem k_443 : (Cond.selects RX12 yX12_doors yX12_doors) ∈ TBg := tb_mem 1388 (by decide +kernel) (by decide +kernel)
theorem k_444 : (Cond.code yX11_asked cX11_asked 4 (some .int)) ∈ TBg := tb_mem 799 (by decide +kernel) (by decide +kernel)
theorem k_445 : (Cond.methodLink RL 55 yX11_asked) ∈ TBg := tb_mem 796 (by decide +kernel) (by decide +kernel)
theorem k_446 : (Cond.instanceMethod yX11_asked) ∈ TBg := tb_mem 797 (by decide +kernel) (by decide +kernel)
theorem k_447 : (Cond.selects RX11 yX11_asked yX11_asked) ∈ TBg := tb_mem 798 (by decide +kernel) (by decide +kernel)
theorem k_448 : (Cond.code yX12_asked cX12_asked 4 (some .int)) ∈ TBg := tb_mem 1416 (by decide +kernel) (by decide +kernel)
theorem k_449 : (Cond.methodLink RL 59 yX12_asked) ∈ TBg := tb_mem 1413 (by decide +kernel) (by decide +kernel)
theorem k_450 : (Cond.instanceMethod yX12_asked) ∈ TBg := tb_mem 1414 (by decide +kernel) (by decide +kernel)
theorem k_451 : (Cond.selects RX12 yX12_asked yX12_asked) ∈ TBg := tb_mem 1415 (by decide +kernel) (by decide +kernel)
theorem k_452 : (Cond.code yX11_dealt cX11_dealt 2 (some .int)) ∈ TBg := tb_mem 812 (by decide +kernel) (by decide +kernel)
theorem k_453 : (Cond.methodLink RL 60 yX11_dealt) ∈ TBg := tb_mem 809 (by decide +kernel) (by decide +kernel)
theorem k_454 : (Cond.instanceMethod yX11_dealt) ∈ TBg := tb_mem 810 (by decide +kernel) (by decide +kernel)
theorem k_455 : (Cond.selects RX11 yX11_dealt yX11_dealt) ∈ TBg := tb_mem 811 (by decide +kernel) (by decide +kernel)
theorem k_456 : (Cond.code yX12_dealt cX12_dealt 7 (some .int)) ∈ TBg := tb_mem 1424 (by decide +kernel) (by decide +kernel)
theorem k_457 : (Cond.methodLink RL 63 yX12_dealt) ∈ TBg := tb_mem 1421 (by decide +kernel) (by decide +kernel)
theorem k_458 : (Cond.instanceMethod yX12_dealt) ∈ TBg := tb_mem 1422 (by decide +kernel) (by decide +kernel)
theorem k_459 : (Cond.selects RX12 yX12_dealt yX12_dealt) ∈ TBg := tb_mem 1423 (by decide +kernel) (by decide +kernel)
theorem k_460 : (Cond.code yX11_master cX11_master 3 (some .int)) ∈ TBg := tb_mem 831 (by decide +kernel) (by decide +kernel)
theorem k_461 : (Cond.methodLink RL 64 yX11_master) ∈ TBg := tb_mem 828 (by decide +kernel) (by decide +kernel)
theorem k_462 : (Cond.instanceMethod yX11_master) ∈ TBg := tb_mem 829 (by decide +kernel) (by decide +kernel)
theorem k_463 : (Cond.selects RX11 yX11_master yX11_master) ∈ TBg := tb_mem 830 (by decide +kernel) (by decide +kernel)
theorem k_464 : (Cond.code yX12_master cX12_master 3 (some .int)) ∈ TBg := tb_mem 1431 (by decide +kernel) (by decide +kernel)
theorem k_465 : (Cond.methodLink RL 67 yX12_master) ∈ TBg := tb_mem 1428 (by decide +kernel) (by decide +kernel)
theorem k_466 : (Cond.instanceMethod yX12_master) ∈ TBg := tb_mem 1429 (by decide +kernel) (by decide +kernel)
theorem k_467 : (Cond.selects RX12 yX12_master yX12_master) ∈ TBg := tb_mem 1430 (by decide +kernel) (by decide +kernel)
theorem k_468 : (Cond.code yX11_round cX11_round 3 (some .int)) ∈ TBg := tb_mem 868 (by decide +kernel) (by decide +kernel)
theorem k_469 : (Cond.methodLink RL 68 yX11_round) ∈ TBg := tb_mem 865 (by decide +kernel) (by decide +kernel)
theorem k_470 : (Cond.instanceMethod yX11_round) ∈ TBg := tb_mem 866 (by decide +kernel) (by decide +kernel)
theorem k_471 : (Cond.selects RX11 yX11_round yX11_round) ∈ TBg := tb_mem 867 (by decide +kernel) (by decide +kernel)
theorem k_472 : (Cond.code yX12_round cX12_round 3 (some .int)) ∈ TBg := tb_mem 1459 (by decide +kernel) (by decide +kernel)
theorem k_473 : (Cond.methodLink RL 71 yX12_round) ∈ TBg := tb_mem 1456 (by decide +kernel) (by decide +kernel)
theorem k_474 : (Cond.instanceMethod yX12_round) ∈ TBg := tb_mem 1457 (by decide +kernel) (by decide +kernel)
theorem k_475 : (Cond.selects RX12 yX12_round yX12_round) ∈ TBg := tb_mem 1458 (by decide +kernel) (by decide +kernel)
theorem k_476 : (Cond.code yX11_good cX11_good 4 (some .int)) ∈ TBg := tb_mem 881 (by decide +kernel) (by decide +kernel)
theorem k_477 : (Cond.methodLink RL 72 yX11_good) ∈ TBg := tb_mem 878 (by decide +kernel) (by decide +kernel)
theorem k_478 : (Cond.instanceMethod yX11_good) ∈ TBg := tb_mem 879 (by decide +kernel) (by decide +kernel)
theorem k_479 : (Cond.selects RX11 yX11_good yX11_good) ∈ TBg := tb_mem 880 (by decide +kernel) (by decide +kernel)
theorem k_480 : (Cond.code yX12_good cX12_good 5 (some .int)) ∈ TBg := tb_mem 1475 (by decide +kernel) (by decide +kernel)
theorem k_481 : (Cond.methodLink RL 75 yX12_good) ∈ TBg := tb_mem 1472 (by decide +kernel) (by decide +kernel)
theorem k_482 : (Cond.instanceMethod yX12_good) ∈ TBg := tb_mem 1473 (by decide +kernel) (by decide +kernel)
theorem k_483 : (Cond.selects RX12 yX12_good yX12_good) ∈ TBg := tb_mem 1474 (by decide +kernel) (by decide +kernel)
theorem k_484 : (Cond.code yX11_deaf cX11_deaf 8 (some .int)) ∈ TBg := tb_mem 890 (by decide +kernel) (by decide +kernel)
theorem k_485 : (Cond.methodLink RL 76 yX11_deaf) ∈ TBg := tb_mem 887 (by decide +kernel) (by decide +kernel)
theorem k_486 : (Cond.instanceMethod yX11_deaf) ∈ TBg := tb_mem 888 (by decide +kernel) (by decide +kernel)
theorem k_487 : (Cond.selects RX11 yX11_deaf yX11_deaf) ∈ TBg := tb_mem 889 (by decide +kernel) (by decide +kernel)
theorem k_488 : (Cond.code yX12_deaf cX12_deaf 7 (some .int)) ∈ TBg := tb_mem 1479 (by decide +kernel) (by decide +kernel)
theorem k_489 : (Cond.methodLink RL 79 yX12_deaf) ∈ TBg := tb_mem 1476 (by decide +kernel) (by decide +kernel)
theorem k_490 : (Cond.instanceMethod yX12_deaf) ∈ TBg := tb_mem 1477 (by decide +kernel) (by decide +kernel)
theorem k_491 : (Cond.selects RX12 yX12_deaf yX12_deaf) ∈ TBg := tb_mem 1478 (by decide +kernel) (by decide +kernel)
theorem k_492 : (Cond.code yX11_least cX11_least 6 (some .int)) ∈ TBg := tb_mem 808 (by decide +kernel) (by decide +kernel)
theorem k_493 : (Cond.methodLink RL 80 yX11_least) ∈ TBg := tb_mem 805 (by decide +kernel) (by decide +kernel)
theorem k_494 : (Cond.instanceMethod yX11_least) ∈ TBg := tb_mem 806 (by decide +kernel) (by decide +kernel)
theorem k_495 : (Cond.selects RX11 yX11_least yX11_least) ∈ TBg := tb_mem 807 (by decide +kernel) (by decide +kernel)
theorem k_496 : (Cond.code yX12_least cX12_least 5 (some .int)) ∈ TBg := tb_mem 1494 (by decide +kernel) (by decide +kernel)
theorem k_497 : (Cond.methodLink RL 83 yX12_least) ∈ TBg := tb_mem 1491 (by decide +kernel) (by decide +kernel)
theorem k_498 : (Cond.instanceMethod yX12_least) ∈ TBg := tb_mem 1492 (by decide +kernel) (by decide +kernel)
theorem k_499 : (Cond.selects RX12 yX12_least yX12_least) ∈ TBg := tb_mem 1493 (by decide +kernel) (by decide +kernel)
theorem k_500 : (Cond.code yX11_sing cX11_sing 3 (some .int)) ∈ TBg := tb_mem 903 (by decide +kernel) (by decide +kernel)
theorem k_501 : (Cond.methodLink RL 84 yX11_sing) ∈ TBg := tb_mem 900 (by decide +kernel) (by decide +kernel)
theorem k_502 : (Cond.instanceMethod yX11_sing) ∈ TBg := tb_mem 901 (by decide +kernel) (by decide +kernel)
theorem k_503 : (Cond.selects RX11 yX11_sing yX11_sing) ∈ TBg := tb_mem 902 (by decide +kernel) (by decide +kernel)
theorem k_504 : (Cond.code yX12_sing cX12_sing 5 (some .int)) ∈ TBg := tb_mem 1498 (by decide +kernel) (by decide +kernel)
theorem k_505 : (Cond.methodLink RL 87 yX12_sing) ∈ TBg := tb_mem 1495 (by decide +kernel) (by decide +kernel)
theorem k_506 : (Cond.instanceMethod yX12_sing) ∈ TBg := tb_mem 1496 (by decide +kernel) (by decide +kernel)
theorem k_507 : (Cond.selects RX12 yX12_sing yX12_sing) ∈ TBg := tb_mem 1497 (by decide +kernel) (by decide +kernel)
theorem k_508 : (Cond.code yX11_song cX11_song 6 (some .int)) ∈ TBg := tb_mem 919 (by decide +kernel) (by decide +kernel)
theorem k_509 : (Cond.methodLink RL 88 yX11_song) ∈ TBg := tb_mem 916 (by decide +kernel) (by decide +kernel)
theorem k_510 : (Cond.instanceMethod yX11_song) ∈ TBg := tb_mem 917 (by decide +kernel) (by decide +kernel)
theorem k_511 : (Cond.selects RX11 yX11_song yX11_song) ∈ TBg := tb_mem 918 (by decide +kernel) (by decide +kernel)
theorem k_512 : (Cond.code yX12_song cX12_song 6 (some .int)) ∈ TBg := tb_mem 1502 (by decide +kernel) (by decide +kernel)
theorem k_513 : (Cond.methodLink RL 91 yX12_song) ∈ TBg := tb_mem 1499 (by decide +kernel) (by decide +kernel)
theorem k_514 : (Cond.instanceMethod yX12_song) ∈ TBg := tb_mem 1500 (by decide +kernel) (by decide +kernel)
theorem k_515 : (Cond.selects RX12 yX12_song yX12_song) ∈ TBg := tb_mem 1501 (by decide +kernel) (by decide +kernel)
theorem k_516 : (Cond.code yX11_silence cX11_silence 2 (some .int)) ∈ TBg := tb_mem 923 (by decide +kernel) (by decide +kernel)
theorem k_517 : (Cond.methodLink RL 92 yX11_silence) ∈ TBg := tb_mem 920 (by decide +kernel) (by decide +kernel)
theorem k_518 : (Cond.instanceMethod yX11_silence) ∈ TBg := tb_mem 921 (by decide +kernel) (by decide +kernel)
theorem k_519 : (Cond.selects RX11 yX11_silence yX11_silence) ∈ TBg := tb_mem 922 (by decide +kernel) (by decide +kernel)
theorem k_520 : (Cond.code yX12_silence cX12_silence 2 (some .int)) ∈ TBg := tb_mem 1507 (by decide +kernel) (by decide +kernel)
theorem k_521 : (Cond.methodLink RL 95 yX12_silence) ∈ TBg := tb_mem 1504 (by decide +kernel) (by decide +kernel)
theorem k_522 : (Cond.instanceMethod yX12_silence) ∈ TBg := tb_mem 1505 (by decide +kernel) (by decide +kernel)
theorem k_523 : (Cond.selects RX12 yX12_silence yX12_silence) ∈ TBg := tb_mem 1506 (by decide +kernel) (by decide +kernel)
theorem k_524 : (Cond.code yX11_shut cX11_shut 2 (some .boolean)) ∈ TBg := tb_mem 927 (by decide +kernel) (by decide +kernel)
theorem k_525 : (Cond.methodLink RL 96 yX11_shut) ∈ TBg := tb_mem 924 (by decide +kernel) (by decide +kernel)
theorem k_526 : (Cond.instanceMethod yX11_shut) ∈ TBg := tb_mem 925 (by decide +kernel) (by decide +kernel)
theorem k_527 : (Cond.selects RX11 yX11_shut yX11_shut) ∈ TBg := tb_mem 926 (by decide +kernel) (by decide +kernel)
theorem k_528 : (Cond.code yX12_shut cX12_shut 2 (some .boolean)) ∈ TBg := tb_mem 1511 (by decide +kernel) (by decide +kernel)
theorem k_529 : (Cond.methodLink RL 100 yX12_shut) ∈ TBg := tb_mem 1508 (by decide +kernel) (by decide +kernel)
theorem k_530 : (Cond.instanceMethod yX12_shut) ∈ TBg := tb_mem 1509 (by decide +kernel) (by decide +kernel)
theorem k_531 : (Cond.selects RX12 yX12_shut yX12_shut) ∈ TBg := tb_mem 1510 (by decide +kernel) (by decide +kernel)
theorem k_532 : (Cond.code yX11_night cX11_night 3 (some .boolean)) ∈ TBg := tb_mem 931 (by decide +kernel) (by decide +kernel)
theorem k_533 : (Cond.methodLink RL 101 yX11_night) ∈ TBg := tb_mem 928 (by decide +kernel) (by decide +kernel)
theorem k_534 : (Cond.instanceMethod yX11_night) ∈ TBg := tb_mem 929 (by decide +kernel) (by decide +kernel)
theorem k_535 : (Cond.selects RX11 yX11_night yX11_night) ∈ TBg := tb_mem 930 (by decide +kernel) (by decide +kernel)
theorem k_536 : (Cond.code yX12_night cX12_night 3 (some .boolean)) ∈ TBg := tb_mem 1515 (by decide +kernel) (by decide +kernel)
theorem k_537 : (Cond.methodLink RL 105 yX12_night) ∈ TBg := tb_mem 1512 (by decide +kernel) (by decide +kernel)
theorem k_538 : (Cond.instanceMethod yX12_night) ∈ TBg := tb_mem 1513 (by decide +kernel) (by decide +kernel)
theorem k_539 : (Cond.selects RX12 yX12_night yX12_night) ∈ TBg := tb_mem 1514 (by decide +kernel) (by decide +kernel)
theorem k_540 : (Cond.code yX11_lock cX11_lock 3 (some .int)) ∈ TBg := tb_mem 935 (by decide +kernel) (by decide +kernel)
theorem k_541 : (Cond.methodLink RL 106 yX11_lock) ∈ TBg := tb_mem 932 (by decide +kernel) (by decide +kernel)
theorem k_542 : (Cond.instanceMethod yX11_lock) ∈ TBg := tb_mem 933 (by decide +kernel) (by decide +kernel)
theorem k_543 : (Cond.selects RX11 yX11_lock yX11_lock) ∈ TBg := tb_mem 934 (by decide +kernel) (by decide +kernel)
theorem k_544 : (Cond.code yX12_lock cX12_lock 3 (some .int)) ∈ TBg := tb_mem 1519 (by decide +kernel) (by decide +kernel)
theorem k_545 : (Cond.methodLink RL 109 yX12_lock) ∈ TBg := tb_mem 1516 (by decide +kernel) (by decide +kernel)
theorem k_546 : (Cond.instanceMethod yX12_lock) ∈ TBg := tb_mem 1517 (by decide +kernel) (by decide +kernel)
theorem k_547 : (Cond.selects RX12 yX12_lock yX12_lock) ∈ TBg := tb_mem 1518 (by decide +kernel) (by decide +kernel)
theorem k_548 : (Cond.code yX11_heard cX11_heard 3 (some .int)) ∈ TBg := tb_mem 940 (by decide +kernel) (by decide +kernel)
theorem k_549 : (Cond.methodLink RL 110 yX11_heard) ∈ TBg := tb_mem 937 (by decide +kernel) (by decide +kernel)
theorem k_550 : (Cond.instanceMethod yX11_heard) ∈ TBg := tb_mem 938 (by decide +kernel) (by decide +kernel)
theorem k_551 : (Cond.selects RX11 yX11_heard yX11_heard) ∈ TBg := tb_mem 939 (by decide +kernel) (by decide +kernel)
theorem k_552 : (Cond.code yX12_heard cX12_heard 3 (some .int)) ∈ TBg := tb_mem 1523 (by decide +kernel) (by decide +kernel)
theorem k_553 : (Cond.methodLink RL 113 yX12_heard) ∈ TBg := tb_mem 1520 (by decide +kernel) (by decide +kernel)
theorem k_554 : (Cond.instanceMethod yX12_heard) ∈ TBg := tb_mem 1521 (by decide +kernel) (by decide +kernel)
theorem k_555 : (Cond.selects RX12 yX12_heard yX12_heard) ∈ TBg := tb_mem 1522 (by decide +kernel) (by decide +kernel)
theorem k_556 : (Cond.code yX11_watch cX11_watch 4 (some .int)) ∈ TBg := tb_mem 944 (by decide +kernel) (by decide +kernel)
theorem k_557 : (Cond.methodLink RL 114 yX11_watch) ∈ TBg := tb_mem 941 (by decide +kernel) (by decide +kernel)
theorem k_558 : (Cond.instanceMethod yX11_watch) ∈ TBg := tb_mem 942 (by decide +kernel) (by decide +kernel)
theorem k_559 : (Cond.selects RX11 yX11_watch yX11_watch) ∈ TBg := tb_mem 943 (by decide +kernel) (by decide +kernel)
theorem k_560 : (Cond.code yX12_watch cX12_watch 4 (some .int)) ∈ TBg := tb_mem 1527 (by decide +kernel) (by decide +kernel)
theorem k_561 : (Cond.methodLink RL 118 yX12_watch) ∈ TBg := tb_mem 1524 (by decide +kernel) (by decide +kernel)
theorem k_562 : (Cond.instanceMethod yX12_watch) ∈ TBg := tb_mem 1525 (by decide +kernel) (by decide +kernel)
theorem k_563 : (Cond.selects RX12 yX12_watch yX12_watch) ∈ TBg := tb_mem 1526 (by decide +kernel) (by decide +kernel)
theorem k_564 : (Cond.code yX11_untell cX11_untell 2 (some .boolean)) ∈ TBg := tb_mem 952 (by decide +kernel) (by decide +kernel)
theorem k_565 : (Cond.methodLink RL 119 yX11_untell) ∈ TBg := tb_mem 949 (by decide +kernel) (by decide +kernel)
theorem k_566 : (Cond.instanceMethod yX11_untell) ∈ TBg := tb_mem 950 (by decide +kernel) (by decide +kernel)
theorem k_567 : (Cond.selects RX11 yX11_untell yX11_untell) ∈ TBg := tb_mem 951 (by decide +kernel) (by decide +kernel)
theorem k_568 : (Cond.code yX12_untell cX12_untell 2 (some .boolean)) ∈ TBg := tb_mem 1531 (by decide +kernel) (by decide +kernel)
theorem k_569 : (Cond.methodLink RL 122 yX12_untell) ∈ TBg := tb_mem 1528 (by decide +kernel) (by decide +kernel)
theorem k_570 : (Cond.instanceMethod yX12_untell) ∈ TBg := tb_mem 1529 (by decide +kernel) (by decide +kernel)
theorem k_571 : (Cond.selects RX12 yX12_untell yX12_untell) ∈ TBg := tb_mem 1530 (by decide +kernel) (by decide +kernel)
theorem k_572 : (Cond.code yX11_later cX11_later 2 (some .int)) ∈ TBg := tb_mem 960 (by decide +kernel) (by decide +kernel)
theorem k_573 : (Cond.methodLink RL 123 yX11_later) ∈ TBg := tb_mem 957 (by decide +kernel) (by decide +kernel)
theorem k_574 : (Cond.instanceMethod yX11_later) ∈ TBg := tb_mem 958 (by decide +kernel) (by decide +kernel)
theorem k_575 : (Cond.selects RX11 yX11_later yX11_later) ∈ TBg := tb_mem 959 (by decide +kernel) (by decide +kernel)
theorem k_576 : (Cond.code yX12_later cX12_later 2 (some .int)) ∈ TBg := tb_mem 1535 (by decide +kernel) (by decide +kernel)
theorem k_577 : (Cond.methodLink RL 126 yX12_later) ∈ TBg := tb_mem 1532 (by decide +kernel) (by decide +kernel)
theorem k_578 : (Cond.instanceMethod yX12_later) ∈ TBg := tb_mem 1533 (by decide +kernel) (by decide +kernel)
theorem k_579 : (Cond.selects RX12 yX12_later yX12_later) ∈ TBg := tb_mem 1534 (by decide +kernel) (by decide +kernel)
theorem k_580 : (Cond.code yX11_left cX11_left 2 (some .int)) ∈ TBg := tb_mem 965 (by decide +kernel) (by decide +kernel)
theorem k_581 : (Cond.methodLink RL 127 yX11_left) ∈ TBg := tb_mem 962 (by decide +kernel) (by decide +kernel)
theorem k_582 : (Cond.instanceMethod yX11_left) ∈ TBg := tb_mem 963 (by decide +kernel) (by decide +kernel)
theorem k_583 : (Cond.selects RX11 yX11_left yX11_left) ∈ TBg := tb_mem 964 (by decide +kernel) (by decide +kernel)
theorem k_584 : (Cond.methodLink RL 130 yX12_left) ∈ TBg := tb_mem 1537 (by decide +kernel) (by decide +kernel)
theorem k_585 : (Cond.code yX11_next cX11_next 12 (some .int)) ∈ TBg := tb_mem 982 (by decide +kernel) (by decide +kernel)
theorem k_586 : (Cond.methodLink RL 131 yX11_next) ∈ TBg := tb_mem 979 (by decide +kernel) (by decide +kernel)
theorem k_587 : (Cond.instanceMethod yX11_next) ∈ TBg := tb_mem 980 (by decide +kernel) (by decide +kernel)
theorem k_588 : (Cond.selects RX11 yX11_next yX11_next) ∈ TBg := tb_mem 981 (by decide +kernel) (by decide +kernel)
theorem k_589 : (Cond.code yX12_next cX12_next 9 (some .int)) ∈ TBg := tb_mem 1544 (by decide +kernel) (by decide +kernel)
theorem k_590 : (Cond.methodLink RL 134 yX12_next) ∈ TBg := tb_mem 1541 (by decide +kernel) (by decide +kernel)
theorem k_591 : (Cond.instanceMethod yX12_next) ∈ TBg := tb_mem 1542 (by decide +kernel) (by decide +kernel)
theorem k_592 : (Cond.selects RX12 yX12_next yX12_next) ∈ TBg := tb_mem 1543 (by decide +kernel) (by decide +kernel)
theorem k_593 : (Cond.code yX11_image cX11_image 2 (some .int)) ∈ TBg := tb_mem 988 (by decide +kernel) (by decide +kernel)
theorem k_594 : (Cond.methodLink RL 135 yX11_image) ∈ TBg := tb_mem 985 (by decide +kernel) (by decide +kernel)
theorem k_595 : (Cond.instanceMethod yX11_image) ∈ TBg := tb_mem 986 (by decide +kernel) (by decide +kernel)
theorem k_596 : (Cond.selects RX11 yX11_image yX11_image) ∈ TBg := tb_mem 987 (by decide +kernel) (by decide +kernel)
theorem k_597 : (Cond.code yX12_image cX12_image 3 (some .int)) ∈ TBg := tb_mem 1549 (by decide +kernel) (by decide +kernel)
theorem k_598 : (Cond.methodLink RL 138 yX12_image) ∈ TBg := tb_mem 1546 (by decide +kernel) (by decide +kernel)
theorem k_599 : (Cond.instanceMethod yX12_image) ∈ TBg := tb_mem 1547 (by decide +kernel) (by decide +kernel)
theorem k_600 : (Cond.selects RX12 yX12_image yX12_image) ∈ TBg := tb_mem 1548 (by decide +kernel) (by decide +kernel)
theorem k_601 : (Cond.code yX11_back cX11_back 2 (some .int)) ∈ TBg := tb_mem 1002 (by decide +kernel) (by decide +kernel)
theorem k_602 : (Cond.methodLink RL 139 yX11_back) ∈ TBg := tb_mem 999 (by decide +kernel) (by decide +kernel)
theorem k_603 : (Cond.instanceMethod yX11_back) ∈ TBg := tb_mem 1000 (by decide +kernel) (by decide +kernel)
theorem k_604 : (Cond.selects RX11 yX11_back yX11_back) ∈ TBg := tb_mem 1001 (by decide +kernel) (by decide +kernel)
theorem k_605 : (Cond.code yX12_back cX12_back 3 (some .int)) ∈ TBg := tb_mem 1553 (by decide +kernel) (by decide +kernel)
theorem k_606 : (Cond.methodLink RL 142 yX12_back) ∈ TBg := tb_mem 1550 (by decide +kernel) (by decide +kernel)
theorem k_607 : (Cond.instanceMethod yX12_back) ∈ TBg := tb_mem 1551 (by decide +kernel) (by decide +kernel)
theorem k_608 : (Cond.selects RX12 yX12_back yX12_back) ∈ TBg := tb_mem 1552 (by decide +kernel) (by decide +kernel)
theorem k_609 : (Cond.code yX11_about cX11_about 2 (some .int)) ∈ TBg := tb_mem 1006 (by decide +kernel) (by decide +kernel)
theorem k_610 : (Cond.methodLink RL 143 yX11_about) ∈ TBg := tb_mem 1003 (by decide +kernel) (by decide +kernel)
theorem k_611 : (Cond.instanceMethod yX11_about) ∈ TBg := tb_mem 1004 (by decide +kernel) (by decide +kernel)
theorem k_612 : (Cond.selects RX11 yX11_about yX11_about) ∈ TBg := tb_mem 1005 (by decide +kernel) (by decide +kernel)
theorem k_613 : (Cond.code yX12_about cX12_about 2 (some .int)) ∈ TBg := tb_mem 1557 (by decide +kernel) (by decide +kernel)
theorem k_614 : (Cond.methodLink RL 146 yX12_about) ∈ TBg := tb_mem 1554 (by decide +kernel) (by decide +kernel)
theorem k_615 : (Cond.instanceMethod yX12_about) ∈ TBg := tb_mem 1555 (by decide +kernel) (by decide +kernel)
theorem k_616 : (Cond.selects RX12 yX12_about yX12_about) ∈ TBg := tb_mem 1556 (by decide +kernel) (by decide +kernel)
theorem dL_law_172 : decode code 172 = .ok (.aload_n 1, 1) := by decide +kernel
theorem dL_law_173 : decode code 173 = .ok (.aload_n 0, 1) := by decide +kernel
theorem dL_law_174 : decode code 174 = .ok (.iload_n 3, 1) := by decide +kernel
theorem dL_law_175 : decode code 175 = .ok (.iconst 1, 1) := by decide +kernel
theorem dL_law_176 : decode code 176 = .ok (.iadd, 1) := by decide +kernel
theorem dL_law_177 : decode code 177 = .ok (.iaload, 1) := by decide +kernel
theorem dL_law_178 : decode code 178 = .ok (.aload_n 0, 1) := by decide +kernel
theorem dL_law_179 : decode code 179 = .ok (.iload_n 3, 1) := by decide +kernel
theorem dL_law_180 : decode code 180 = .ok (.iconst 2, 1) := by decide +kernel
theorem dL_law_181 : decode code 181 = .ok (.iadd, 1) := by decide +kernel
theorem dL_law_182 : decode code 182 = .ok (.iaload, 1) := by decide +kernel
theorem dL_law_183 : decode code 183 = .ok (.aload_n 0, 1) := by decide +kernel
theorem dL_law_184 : decode code 184 = .ok (.iload_n 3, 1) := by decide +kernel
theorem dL_law_185 : decode code 185 = .ok (.iconst 3, 1) := by decide +kernel
theorem dL_law_186 : decode code 186 = .ok (.iadd, 1) := by decide +kernel
theorem dL_law_187 : decode code 187 = .ok (.iaload, 1) := by decide +kernel
theorem dL_law_188 : decode code 188 = .ok (.aload_n 0, 1) := by decide +kernel
theorem dL_law_189 : decode code 189 = .ok (.iload_n 3, 1) := by decide +kernel
theorem dL_law_190 : decode code 190 = .ok (.iconst 4, 1) := by decide +kernel
theorem dL_law_191 : decode code 191 = .ok (.iadd, 1) := by decide +kernel
theorem dL_law_192 : decode code 192 = .ok (.iaload, 1) := by decide +kernel
theorem dL_law_193 : decode code 193 = .ok (.aload_n 0, 1) := by decide +kernel
theorem dL_law_194 : decode code 194 = .ok (.iload_n 3, 1) := by decide +kernel
theorem dL_law_195 : decode code 195 = .ok (.iconst 5, 1) := by decide +kernel
theorem dL_law_196 : decode code 196 = .ok (.iadd, 1) := by decide +kernel
theorem dL_law_197 : decode code 197 = .ok (.iaload, 1) := by decide +kernel
theorem dL_law_198 : decode code 198 = .ok (.invokevirtual 13, 3) := by decide +kernel
theorem dL_law_201 : decode code 201 = .ok (.aload_n 2, 1) := by decide +kernel
theorem dL_law_202 : decode code 202 = .ok (.aload_n 0, 1) := by decide +kernel
theorem dL_law_203 : decode code 203 = .ok (.iload_n 3, 1) := by decide +kernel
theorem dL_law_204 : decode code 204 = .ok (.iconst 1, 1) := by decide +kernel
theorem dL_law_205 : decode code 205 = .ok (.iadd, 1) := by decide +kernel
theorem dL_law_206 : decode code 206 = .ok (.iaload, 1) := by decide +kernel
theorem dL_law_207 : decode code 207 = .ok (.aload_n 0, 1) := by decide +kernel
theorem dL_law_208 : decode code 208 = .ok (.iload_n 3, 1) := by decide +kernel
theorem dL_law_209 : decode code 209 = .ok (.iconst 2, 1) := by decide +kernel
theorem dL_law_210 : decode code 210 = .ok (.iadd, 1) := by decide +kernel
theorem dL_law_211 : decode code 211 = .ok (.iaload, 1) := by decide +kernel
theorem dL_law_212 : decode code 212 = .ok (.aload_n 0, 1) := by decide +kernel
theorem dL_law_213 : decode code 213 = .ok (.iload_n 3, 1) := by decide +kernel
theorem dL_law_214 : decode code 214 = .ok (.iconst 3, 1) := by decide +kernel
theorem dL_law_215 : decode code 215 = .ok (.iadd, 1) := by decide +kernel
theorem dL_law_216 : decode code 216 = .ok (.iaload, 1) := by decide +kernel
theorem dL_law_217 : decode code 217 = .ok (.aload_n 0, 1) := by decide +kernel
theorem dL_law_218 : decode code 218 = .ok (.iload_n 3, 1) := by decide +kernel
theorem dL_law_219 : decode code 219 = .ok (.iconst 4, 1) := by decide +kernel
theorem dL_law_220 : decode code 220 = .ok (.iadd, 1) := by decide +kernel
theorem dL_law_221 : decode code 221 = .ok (.iaload, 1) := by decide +kernel
theorem dL_law_222 : decode code 222 = .ok (.aload_n 0, 1) := by decide +kernel
theorem dL_law_223 : decode code 223 = .ok (.iload_n 3, 1) := by decide +kernel
theorem dL_law_224 : decode code 224 = .ok (.iconst 5, 1) := by decide +kernel
theorem dL_law_225 : decode code 225 = .ok (.iadd, 1) := by decide +kernel
theorem dL_law_226 : decode code 226 = .ok (.iaload, 1) := by decide +kernel
theorem dL_law_227 : decode code 227 = .ok (.invokevirtual 17, 3) := by decide +kernel
theorem dL_law_230 : decode code 230 = .ok (.if_icmp .eq 981, 3) := by decide +kernel
theorem dL_law_1211 : decode code 1211 = .ok (.iinc 3 6, 3) := by decide +kernel
theorem dL_law_1214 : decode code 1214 = .ok (.goto (-1196), 3) := by decide +kernel
theorem dL_law_18 : decode code 18 = .ok (.iload_n 3, 1) := by decide +kernel
theorem dL_law_19 : decode code 19 = .ok (.aload_n 0, 1) := by decide +kernel
theorem dL_law_20 : decode code 20 = .ok (.arraylength, 1) := by decide +kernel
theorem dL_law_21 : decode code 21 = .ok (.bipush 6, 2) := by decide +kernel
theorem dL_law_23 : decode code 23 = .ok (.isub, 1) := by decide +kernel
theorem dL_law_24 : decode code 24 = .ok (.if_icmp .gt 1193, 3) := by decide +kernel
theorem dL_law_1217 : decode code 1217 = .ok (.iconst 1, 1) := by decide +kernel
theorem dL_law_1218 : decode code 1218 = .ok (.ireturn, 1) := by decide +kernel
theorem dL_law_235 : decode code 235 = .ok (.aload_n 1, 1) := by decide +kernel
theorem dL_law_236 : decode code 236 = .ok (.aload_n 0, 1) := by decide +kernel
theorem dL_law_237 : decode code 237 = .ok (.iload_n 3, 1) := by decide +kernel
theorem dL_law_238 : decode code 238 = .ok (.iconst 1, 1) := by decide +kernel
theorem dL_law_239 : decode code 239 = .ok (.iadd, 1) := by decide +kernel
theorem dL_law_240 : decode code 240 = .ok (.iaload, 1) := by decide +kernel
theorem dL_law_241 : decode code 241 = .ok (.invokevirtual 18, 3) := by decide +kernel
theorem dL_law_244 : decode code 244 = .ok (.aload_n 2, 1) := by decide +kernel
theorem dL_law_245 : decode code 245 = .ok (.aload_n 0, 1) := by decide +kernel
theorem dL_law_246 : decode code 246 = .ok (.iload_n 3, 1) := by decide +kernel
theorem dL_law_247 : decode code 247 = .ok (.iconst 1, 1) := by decide +kernel
theorem dL_law_248 : decode code 248 = .ok (.iadd, 1) := by decide +kernel
theorem dL_law_249 : decode code 249 = .ok (.iaload, 1) := by decide +kernel
theorem dL_law_250 : decode code 250 = .ok (.invokevirtual 22, 3) := by decide +kernel
theorem dL_law_253 : decode code 253 = .ok (.if_icmp .eq 958, 3) := by decide +kernel
theorem dL_law_258 : decode code 258 = .ok (.aload_n 1, 1) := by decide +kernel
theorem dL_law_259 : decode code 259 = .ok (.invokevirtual 23, 3) := by decide +kernel
theorem dL_law_262 : decode code 262 = .ok (.aload_n 2, 1) := by decide +kernel
theorem dL_law_263 : decode code 263 = .ok (.invokevirtual 27, 3) := by decide +kernel
theorem dL_law_266 : decode code 266 = .ok (.if_icmp .eq 945, 3) := by decide +kernel
theorem dL_law_271 : decode code 271 = .ok (.aload_n 1, 1) := by decide +kernel
theorem dL_law_272 : decode code 272 = .ok (.aload_n 0, 1) := by decide +kernel
theorem dL_law_273 : decode code 273 = .ok (.iload_n 3, 1) := by decide +kernel
theorem dL_law_274 : decode code 274 = .ok (.iconst 1, 1) := by decide +kernel
theorem dL_law_275 : decode code 275 = .ok (.iadd, 1) := by decide +kernel
theorem dL_law_276 : decode code 276 = .ok (.iaload, 1) := by decide +kernel
theorem dL_law_277 : decode code 277 = .ok (.invokevirtual 28, 3) := by decide +kernel
theorem dL_law_280 : decode code 280 = .ok (.aload_n 2, 1) := by decide +kernel
theorem dL_law_281 : decode code 281 = .ok (.aload_n 0, 1) := by decide +kernel
theorem dL_law_282 : decode code 282 = .ok (.iload_n 3, 1) := by decide +kernel
theorem dL_law_283 : decode code 283 = .ok (.iconst 1, 1) := by decide +kernel
theorem dL_law_284 : decode code 284 = .ok (.iadd, 1) := by decide +kernel
theorem dL_law_285 : decode code 285 = .ok (.iaload, 1) := by decide +kernel
theorem dL_law_286 : decode code 286 = .ok (.invokevirtual 31, 3) := by decide +kernel
theorem dL_law_289 : decode code 289 = .ok (.if_icmp .eq 922, 3) := by decide +kernel
theorem dL_law_294 : decode code 294 = .ok (.aload_n 1, 1) := by decide +kernel
theorem dL_law_295 : decode code 295 = .ok (.aload_n 0, 1) := by decide +kernel
theorem dL_law_296 : decode code 296 = .ok (.iload_n 3, 1) := by decide +kernel
theorem dL_law_297 : decode code 297 = .ok (.iconst 1, 1) := by decide +kernel
theorem dL_law_298 : decode code 298 = .ok (.iadd, 1) := by decide +kernel
theorem dL_law_299 : decode code 299 = .ok (.iaload, 1) := by decide +kernel
theorem dL_law_300 : decode code 300 = .ok (.invokevirtual 32, 3) := by decide +kernel
theorem dL_law_303 : decode code 303 = .ok (.aload_n 2, 1) := by decide +kernel
theorem dL_law_304 : decode code 304 = .ok (.aload_n 0, 1) := by decide +kernel
theorem dL_law_305 : decode code 305 = .ok (.iload_n 3, 1) := by decide +kernel
theorem dL_law_306 : decode code 306 = .ok (.iconst 1, 1) := by decide +kernel
theorem dL_law_307 : decode code 307 = .ok (.iadd, 1) := by decide +kernel
theorem dL_law_308 : decode code 308 = .ok (.iaload, 1) := by decide +kernel
theorem dL_law_309 : decode code 309 = .ok (.invokevirtual 35, 3) := by decide +kernel
theorem dL_law_312 : decode code 312 = .ok (.if_icmp .eq 899, 3) := by decide +kernel
theorem dL_law_317 : decode code 317 = .ok (.aload_n 1, 1) := by decide +kernel
theorem dL_law_318 : decode code 318 = .ok (.aload_n 0, 1) := by decide +kernel
theorem dL_law_319 : decode code 319 = .ok (.iload_n 3, 1) := by decide +kernel
theorem dL_law_320 : decode code 320 = .ok (.iconst 1, 1) := by decide +kernel
theorem dL_law_321 : decode code 321 = .ok (.iadd, 1) := by decide +kernel
theorem dL_law_322 : decode code 322 = .ok (.iaload, 1) := by decide +kernel
theorem dL_law_323 : decode code 323 = .ok (.aload_n 0, 1) := by decide +kernel
theorem dL_law_324 : decode code 324 = .ok (.iload_n 3, 1) := by decide +kernel
theorem dL_law_325 : decode code 325 = .ok (.iconst 2, 1) := by decide +kernel
theorem dL_law_326 : decode code 326 = .ok (.iadd, 1) := by decide +kernel
theorem dL_law_327 : decode code 327 = .ok (.iaload, 1) := by decide +kernel
theorem dL_law_328 : decode code 328 = .ok (.invokevirtual 36, 3) := by decide +kernel
theorem dL_law_331 : decode code 331 = .ok (.aload_n 2, 1) := by decide +kernel
theorem dL_law_332 : decode code 332 = .ok (.aload_n 0, 1) := by decide +kernel
theorem dL_law_333 : decode code 333 = .ok (.iload_n 3, 1) := by decide +kernel
theorem dL_law_334 : decode code 334 = .ok (.iconst 1, 1) := by decide +kernel
theorem dL_law_335 : decode code 335 = .ok (.iadd, 1) := by decide +kernel
theorem dL_law_336 : decode code 336 = .ok (.iaload, 1) := by decide +kernel
theorem dL_law_337 : decode code 337 = .ok (.aload_n 0, 1) := by decide +kernel
theorem dL_law_338 : decode code 338 = .ok (.iload_n 3, 1) := by decide +kernel
theorem dL_law_339 : decode code 339 = .ok (.iconst 2, 1) := by decide +kernel
theorem dL_law_340 : decode code 340 = .ok (.iadd, 1) := by decide +kernel
theorem dL_law_341 : decode code 341 = .ok (.iaload, 1) := by decide +kernel
theorem dL_law_342 : decode code 342 = .ok (.invokevirtual 40, 3) := by decide +kernel
theorem dL_law_345 : decode code 345 = .ok (.if_icmp .eq 866, 3) := by decide +kernel
theorem dL_law_350 : decode code 350 = .ok (.aload_n 1, 1) := by decide +kernel
theorem dL_law_351 : decode code 351 = .ok (.aload_n 0, 1) := by decide +kernel
theorem dL_law_352 : decode code 352 = .ok (.iload_n 3, 1) := by decide +kernel
theorem dL_law_353 : decode code 353 = .ok (.iconst 1, 1) := by decide +kernel
theorem dL_law_354 : decode code 354 = .ok (.iadd, 1) := by decide +kernel
theorem dL_law_355 : decode code 355 = .ok (.iaload, 1) := by decide +kernel
theorem dL_law_356 : decode code 356 = .ok (.aload_n 0, 1) := by decide +kernel
theorem dL_law_357 : decode code 357 = .ok (.iload_n 3, 1) := by decide +kernel
theorem dL_law_358 : decode code 358 = .ok (.iconst 2, 1) := by decide +kernel
theorem dL_law_359 : decode code 359 = .ok (.iadd, 1) := by decide +kernel
theorem dL_law_360 : decode code 360 = .ok (.iaload, 1) := by decide +kernel
theorem dL_law_361 : decode code 361 = .ok (.aload_n 0, 1) := by decide +kernel
theorem dL_law_362 : decode code 362 = .ok (.iload_n 3, 1) := by decide +kernel
theorem dL_law_363 : decode code 363 = .ok (.iconst 3, 1) := by decide +kernel
theorem dL_law_364 : decode code 364 = .ok (.iadd, 1) := by decide +kernel
theorem dL_law_365 : decode code 365 = .ok (.iaload, 1) := by decide +kernel
theorem dL_law_366 : decode code 366 = .ok (.invokevirtual 41, 3) := by decide +kernel
theorem dL_law_369 : decode code 369 = .ok (.aload_n 2, 1) := by decide +kernel
theorem dL_law_370 : decode code 370 = .ok (.aload_n 0, 1) := by decide +kernel
theorem dL_law_371 : decode code 371 = .ok (.iload_n 3, 1) := by decide +kernel
theorem dL_law_372 : decode code 372 = .ok (.iconst 1, 1) := by decide +kernel
theorem dL_law_373 : decode code 373 = .ok (.iadd, 1) := by decide +kernel
theorem dL_law_374 : decode code 374 = .ok (.iaload, 1) := by decide +kernel
theorem dL_law_375 : decode code 375 = .ok (.aload_n 0, 1) := by decide +kernel
theorem dL_law_376 : decode code 376 = .ok (.iload_n 3, 1) := by decide +kernel
theorem dL_law_377 : decode code 377 = .ok (.iconst 2, 1) := by decide +kernel
theorem dL_law_378 : decode code 378 = .ok (.iadd, 1) := by decide +kernel
theorem dL_law_379 : decode code 379 = .ok (.iaload, 1) := by decide +kernel
theorem dL_law_380 : decode code 380 = .ok (.aload_n 0, 1) := by decide +kernel
theorem dL_law_381 : decode code 381 = .ok (.iload_n 3, 1) := by decide +kernel
theorem dL_law_382 : decode code 382 = .ok (.iconst 3, 1) := by decide +kernel
theorem dL_law_383 : decode code 383 = .ok (.iadd, 1) := by decide +kernel
theorem dL_law_384 : decode code 384 = .ok (.iaload, 1) := by decide +kernel
theorem dL_law_385 : decode code 385 = .ok (.invokevirtual 45, 3) := by decide +kernel
theorem dL_law_388 : decode code 388 = .ok (.if_icmp .eq 823, 3) := by decide +kernel
theorem dL_law_393 : decode code 393 = .ok (.aload_n 1, 1) := by decide +kernel
theorem dL_law_394 : decode code 394 = .ok (.aload_n 0, 1) := by decide +kernel
theorem dL_law_395 : decode code 395 = .ok (.iload_n 3, 1) := by decide +kernel
theorem dL_law_396 : decode code 396 = .ok (.iconst 1, 1) := by decide +kernel
theorem dL_law_397 : decode code 397 = .ok (.iadd, 1) := by decide +kernel
theorem dL_law_398 : decode code 398 = .ok (.iaload, 1) := by decide +kernel
theorem dL_law_399 : decode code 399 = .ok (.aload_n 0, 1) := by decide +kernel
theorem dL_law_400 : decode code 400 = .ok (.iload_n 3, 1) := by decide +kernel
theorem dL_law_401 : decode code 401 = .ok (.iconst 2, 1) := by decide +kernel
theorem dL_law_402 : decode code 402 = .ok (.iadd, 1) := by decide +kernel
theorem dL_law_403 : decode code 403 = .ok (.iaload, 1) := by decide +kernel
theorem dL_law_404 : decode code 404 = .ok (.aload_n 0, 1) := by decide +kernel
theorem dL_law_405 : decode code 405 = .ok (.iload_n 3, 1) := by decide +kernel
theorem dL_law_406 : decode code 406 = .ok (.iconst 3, 1) := by decide +kernel
theorem dL_law_407 : decode code 407 = .ok (.iadd, 1) := by decide +kernel
theorem dL_law_408 : decode code 408 = .ok (.iaload, 1) := by decide +kernel
theorem dL_law_409 : decode code 409 = .ok (.invokevirtual 46, 3) := by decide +kernel
theorem dL_law_412 : decode code 412 = .ok (.aload_n 2, 1) := by decide +kernel
theorem dL_law_413 : decode code 413 = .ok (.aload_n 0, 1) := by decide +kernel
theorem dL_law_414 : decode code 414 = .ok (.iload_n 3, 1) := by decide +kernel
theorem dL_law_415 : decode code 415 = .ok (.iconst 1, 1) := by decide +kernel
theorem dL_law_416 : decode code 416 = .ok (.iadd, 1) := by decide +kernel
theorem dL_law_417 : decode code 417 = .ok (.iaload, 1) := by decide +kernel
theorem dL_law_418 : decode code 418 = .ok (.aload_n 0, 1) := by decide +kernel
theorem dL_law_419 : decode code 419 = .ok (.iload_n 3, 1) := by decide +kernel
theorem dL_law_420 : decode code 420 = .ok (.iconst 2, 1) := by decide +kernel
theorem dL_law_421 : decode code 421 = .ok (.iadd, 1) := by decide +kernel
theorem dL_law_422 : decode code 422 = .ok (.iaload, 1) := by decide +kernel
theorem dL_law_423 : decode code 423 = .ok (.aload_n 0, 1) := by decide +kernel
theorem dL_law_424 : decode code 424 = .ok (.iload_n 3, 1) := by decide +kernel
theorem dL_law_425 : decode code 425 = .ok (.iconst 3, 1) := by decide +kernel
theorem dL_law_426 : decode code 426 = .ok (.iadd, 1) := by decide +kernel
theorem dL_law_427 : decode code 427 = .ok (.iaload, 1) := by decide +kernel
theorem dL_law_428 : decode code 428 = .ok (.invokevirtual 49, 3) := by decide +kernel
theorem dL_law_431 : decode code 431 = .ok (.if_icmp .eq 780, 3) := by decide +kernel
theorem dL_law_436 : decode code 436 = .ok (.aload_n 1, 1) := by decide +kernel
theorem dL_law_437 : decode code 437 = .ok (.aload_n 0, 1) := by decide +kernel
theorem dL_law_438 : decode code 438 = .ok (.iload_n 3, 1) := by decide +kernel
theorem dL_law_439 : decode code 439 = .ok (.iconst 1, 1) := by decide +kernel
theorem dL_law_440 : decode code 440 = .ok (.iadd, 1) := by decide +kernel
theorem dL_law_441 : decode code 441 = .ok (.iaload, 1) := by decide +kernel
theorem dL_law_442 : decode code 442 = .ok (.aload_n 0, 1) := by decide +kernel
theorem dL_law_443 : decode code 443 = .ok (.iload_n 3, 1) := by decide +kernel
theorem dL_law_444 : decode code 444 = .ok (.iconst 2, 1) := by decide +kernel
theorem dL_law_445 : decode code 445 = .ok (.iadd, 1) := by decide +kernel
theorem dL_law_446 : decode code 446 = .ok (.iaload, 1) := by decide +kernel
theorem dL_law_447 : decode code 447 = .ok (.ifCond .eq 7, 3) := by decide +kernel
theorem dL_law_454 : decode code 454 = .ok (.iconst 0, 1) := by decide +kernel
theorem dL_law_455 : decode code 455 = .ok (.invokevirtual 50, 3) := by decide +kernel
theorem dL_law_458 : decode code 458 = .ok (.aload_n 2, 1) := by decide +kernel
theorem dL_law_459 : decode code 459 = .ok (.aload_n 0, 1) := by decide +kernel
theorem dL_law_460 : decode code 460 = .ok (.iload_n 3, 1) := by decide +kernel
theorem dL_law_461 : decode code 461 = .ok (.iconst 1, 1) := by decide +kernel
theorem dL_law_462 : decode code 462 = .ok (.iadd, 1) := by decide +kernel
theorem dL_law_463 : decode code 463 = .ok (.iaload, 1) := by decide +kernel
theorem dL_law_464 : decode code 464 = .ok (.aload_n 0, 1) := by decide +kernel
theorem dL_law_465 : decode code 465 = .ok (.iload_n 3, 1) := by decide +kernel
theorem dL_law_466 : decode code 466 = .ok (.iconst 2, 1) := by decide +kernel
theorem dL_law_467 : decode code 467 = .ok (.iadd, 1) := by decide +kernel
theorem dL_law_468 : decode code 468 = .ok (.iaload, 1) := by decide +kernel
theorem dL_law_469 : decode code 469 = .ok (.ifCond .eq 7, 3) := by decide +kernel
theorem dL_law_476 : decode code 476 = .ok (.iconst 0, 1) := by decide +kernel
theorem dL_law_477 : decode code 477 = .ok (.invokevirtual 54, 3) := by decide +kernel
theorem dL_law_480 : decode code 480 = .ok (.if_icmp .eq 731, 3) := by decide +kernel
theorem dL_law_450 : decode code 450 = .ok (.iconst 1, 1) := by decide +kernel
theorem dL_law_451 : decode code 451 = .ok (.goto 4, 3) := by decide +kernel
theorem dL_law_472 : decode code 472 = .ok (.iconst 1, 1) := by decide +kernel
theorem dL_law_473 : decode code 473 = .ok (.goto 4, 3) := by decide +kernel
theorem dL_law_485 : decode code 485 = .ok (.aload_n 1, 1) := by decide +kernel
theorem dL_law_486 : decode code 486 = .ok (.aload_n 0, 1) := by decide +kernel
theorem dL_law_487 : decode code 487 = .ok (.iload_n 3, 1) := by decide +kernel
theorem dL_law_488 : decode code 488 = .ok (.iconst 1, 1) := by decide +kernel
theorem dL_law_489 : decode code 489 = .ok (.iadd, 1) := by decide +kernel
theorem dL_law_490 : decode code 490 = .ok (.iaload, 1) := by decide +kernel
theorem dL_law_491 : decode code 491 = .ok (.aload_n 0, 1) := by decide +kernel
theorem dL_law_492 : decode code 492 = .ok (.iload_n 3, 1) := by decide +kernel
theorem dL_law_493 : decode code 493 = .ok (.iconst 2, 1) := by decide +kernel
theorem dL_law_494 : decode code 494 = .ok (.iadd, 1) := by decide +kernel
theorem dL_law_495 : decode code 495 = .ok (.iaload, 1) := by decide +kernel
theorem dL_law_496 : decode code 496 = .ok (.aload_n 0, 1) := by decide +kernel
theorem dL_law_497 : decode code 497 = .ok (.iload_n 3, 1) := by decide +kernel
theorem dL_law_498 : decode code 498 = .ok (.iconst 3, 1) := by decide +kernel
theorem dL_law_499 : decode code 499 = .ok (.iadd, 1) := by decide +kernel
theorem dL_law_500 : decode code 500 = .ok (.iaload, 1) := by decide +kernel
theorem dL_law_501 : decode code 501 = .ok (.ifCond .eq 7, 3) := by decide +kernel
theorem dL_law_508 : decode code 508 = .ok (.iconst 0, 1) := by decide +kernel
theorem dL_law_509 : decode code 509 = .ok (.invokevirtual 55, 3) := by decide +kernel
theorem dL_law_512 : decode code 512 = .ok (.aload_n 2, 1) := by decide +kernel
theorem dL_law_513 : decode code 513 = .ok (.aload_n 0, 1) := by decide +kernel
theorem dL_law_514 : decode code 514 = .ok (.iload_n 3, 1) := by decide +kernel
theorem dL_law_515 : decode code 515 = .ok (.iconst 1, 1) := by decide +kernel
theorem dL_law_516 : decode code 516 = .ok (.iadd, 1) := by decide +kernel
theorem dL_law_517 : decode code 517 = .ok (.iaload, 1) := by decide +kernel
theorem dL_law_518 : decode code 518 = .ok (.aload_n 0, 1) := by decide +kernel
theorem dL_law_519 : decode code 519 = .ok (.iload_n 3, 1) := by decide +kernel
theorem dL_law_520 : decode code 520 = .ok (.iconst 2, 1) := by decide +kernel
theorem dL_law_521 : decode code 521 = .ok (.iadd, 1) := by decide +kernel
theorem dL_law_522 : decode code 522 = .ok (.iaload, 1) := by decide +kernel
theorem dL_law_523 : decode code 523 = .ok (.aload_n 0, 1) := by decide +kernel
theorem dL_law_524 : decode code 524 = .ok (.iload_n 3, 1) := by decide +kernel
theorem dL_law_525 : decode code 525 = .ok (.iconst 3, 1) := by decide +kernel
theorem dL_law_526 : decode code 526 = .ok (.iadd, 1) := by decide +kernel
theorem dL_law_527 : decode code 527 = .ok (.iaload, 1) := by decide +kernel
theorem dL_law_528 : decode code 528 = .ok (.ifCond .eq 7, 3) := by decide +kernel
theorem dL_law_535 : decode code 535 = .ok (.iconst 0, 1) := by decide +kernel
theorem dL_law_536 : decode code 536 = .ok (.invokevirtual 59, 3) := by decide +kernel
theorem dL_law_539 : decode code 539 = .ok (.if_icmp .eq 672, 3) := by decide +kernel
theorem dL_law_504 : decode code 504 = .ok (.iconst 1, 1) := by decide +kernel
theorem dL_law_505 : decode code 505 = .ok (.goto 4, 3) := by decide +kernel
theorem dL_law_531 : decode code 531 = .ok (.iconst 1, 1) := by decide +kernel
theorem dL_law_532 : decode code 532 = .ok (.goto 4, 3) := by decide +kernel
theorem dL_law_544 : decode code 544 = .ok (.aload_n 1, 1) := by decide +kernel
theorem dL_law_545 : decode code 545 = .ok (.aload_n 0, 1) := by decide +kernel
theorem dL_law_546 : decode code 546 = .ok (.iload_n 3, 1) := by decide +kernel
theorem dL_law_547 : decode code 547 = .ok (.iconst 1, 1) := by decide +kernel
theorem dL_law_548 : decode code 548 = .ok (.iadd, 1) := by decide +kernel
theorem dL_law_549 : decode code 549 = .ok (.iaload, 1) := by decide +kernel
theorem dL_law_550 : decode code 550 = .ok (.invokevirtual 60, 3) := by decide +kernel
theorem dL_law_553 : decode code 553 = .ok (.aload_n 2, 1) := by decide +kernel
theorem dL_law_554 : decode code 554 = .ok (.aload_n 0, 1) := by decide +kernel
theorem dL_law_555 : decode code 555 = .ok (.iload_n 3, 1) := by decide +kernel
theorem dL_law_556 : decode code 556 = .ok (.iconst 1, 1) := by decide +kernel
theorem dL_law_557 : decode code 557 = .ok (.iadd, 1) := by decide +kernel
theorem dL_law_558 : decode code 558 = .ok (.iaload, 1) := by decide +kernel
theorem dL_law_559 : decode code 559 = .ok (.invokevirtual 63, 3) := by decide +kernel
theorem dL_law_562 : decode code 562 = .ok (.if_icmp .eq 649, 3) := by decide +kernel
theorem dL_law_567 : decode code 567 = .ok (.aload_n 1, 1) := by decide +kernel
theorem dL_law_568 : decode code 568 = .ok (.aload_n 0, 1) := by decide +kernel
theorem dL_law_569 : decode code 569 = .ok (.iload_n 3, 1) := by decide +kernel
theorem dL_law_570 : decode code 570 = .ok (.iconst 1, 1) := by decide +kernel
theorem dL_law_571 : decode code 571 = .ok (.iadd, 1) := by decide +kernel
theorem dL_law_572 : decode code 572 = .ok (.iaload, 1) := by decide +kernel
theorem dL_law_573 : decode code 573 = .ok (.aload_n 0, 1) := by decide +kernel
theorem dL_law_574 : decode code 574 = .ok (.iload_n 3, 1) := by decide +kernel
theorem dL_law_575 : decode code 575 = .ok (.iconst 2, 1) := by decide +kernel
theorem dL_law_576 : decode code 576 = .ok (.iadd, 1) := by decide +kernel
theorem dL_law_577 : decode code 577 = .ok (.iaload, 1) := by decide +kernel
theorem dL_law_578 : decode code 578 = .ok (.invokevirtual 64, 3) := by decide +kernel
theorem dL_law_581 : decode code 581 = .ok (.aload_n 2, 1) := by decide +kernel
theorem dL_law_582 : decode code 582 = .ok (.aload_n 0, 1) := by decide +kernel
theorem dL_law_583 : decode code 583 = .ok (.iload_n 3, 1) := by decide +kernel
theorem dL_law_584 : decode code 584 = .ok (.iconst 1, 1) := by decide +kernel
theorem dL_law_585 : decode code 585 = .ok (.iadd, 1) := by decide +kernel
theorem dL_law_586 : decode code 586 = .ok (.iaload, 1) := by decide +kernel
theorem dL_law_587 : decode code 587 = .ok (.aload_n 0, 1) := by decide +kernel
theorem dL_law_588 : decode code 588 = .ok (.iload_n 3, 1) := by decide +kernel
theorem dL_law_589 : decode code 589 = .ok (.iconst 2, 1) := by decide +kernel
theorem dL_law_590 : decode code 590 = .ok (.iadd, 1) := by decide +kernel
theorem dL_law_591 : decode code 591 = .ok (.iaload, 1) := by decide +kernel
theorem dL_law_592 : decode code 592 = .ok (.invokevirtual 67, 3) := by decide +kernel
theorem dL_law_595 : decode code 595 = .ok (.if_icmp .eq 616, 3) := by decide +kernel
theorem dL_law_600 : decode code 600 = .ok (.aload_n 1, 1) := by decide +kernel
theorem dL_law_601 : decode code 601 = .ok (.aload_n 0, 1) := by decide +kernel
theorem dL_law_602 : decode code 602 = .ok (.iload_n 3, 1) := by decide +kernel
theorem dL_law_603 : decode code 603 = .ok (.iconst 1, 1) := by decide +kernel
theorem dL_law_604 : decode code 604 = .ok (.iadd, 1) := by decide +kernel
theorem dL_law_605 : decode code 605 = .ok (.iaload, 1) := by decide +kernel
theorem dL_law_606 : decode code 606 = .ok (.aload_n 0, 1) := by decide +kernel
theorem dL_law_607 : decode code 607 = .ok (.iload_n 3, 1) := by decide +kernel
theorem dL_law_608 : decode code 608 = .ok (.iconst 2, 1) := by decide +kernel
theorem dL_law_609 : decode code 609 = .ok (.iadd, 1) := by decide +kernel
theorem dL_law_610 : decode code 610 = .ok (.iaload, 1) := by decide +kernel
theorem dL_law_611 : decode code 611 = .ok (.invokevirtual 68, 3) := by decide +kernel
theorem dL_law_614 : decode code 614 = .ok (.aload_n 2, 1) := by decide +kernel
theorem dL_law_615 : decode code 615 = .ok (.aload_n 0, 1) := by decide +kernel
theorem dL_law_616 : decode code 616 = .ok (.iload_n 3, 1) := by decide +kernel
theorem dL_law_617 : decode code 617 = .ok (.iconst 1, 1) := by decide +kernel
theorem dL_law_618 : decode code 618 = .ok (.iadd, 1) := by decide +kernel
theorem dL_law_619 : decode code 619 = .ok (.iaload, 1) := by decide +kernel
theorem dL_law_620 : decode code 620 = .ok (.aload_n 0, 1) := by decide +kernel
theorem dL_law_621 : decode code 621 = .ok (.iload_n 3, 1) := by decide +kernel
theorem dL_law_622 : decode code 622 = .ok (.iconst 2, 1) := by decide +kernel
theorem dL_law_623 : decode code 623 = .ok (.iadd, 1) := by decide +kernel
theorem dL_law_624 : decode code 624 = .ok (.iaload, 1) := by decide +kernel
theorem dL_law_625 : decode code 625 = .ok (.invokevirtual 71, 3) := by decide +kernel
theorem dL_law_628 : decode code 628 = .ok (.if_icmp .eq 583, 3) := by decide +kernel
theorem dL_law_633 : decode code 633 = .ok (.aload_n 1, 1) := by decide +kernel
theorem dL_law_634 : decode code 634 = .ok (.aload_n 0, 1) := by decide +kernel
theorem dL_law_635 : decode code 635 = .ok (.iload_n 3, 1) := by decide +kernel
theorem dL_law_636 : decode code 636 = .ok (.iconst 1, 1) := by decide +kernel
theorem dL_law_637 : decode code 637 = .ok (.iadd, 1) := by decide +kernel
theorem dL_law_638 : decode code 638 = .ok (.iaload, 1) := by decide +kernel
theorem dL_law_639 : decode code 639 = .ok (.aload_n 0, 1) := by decide +kernel
theorem dL_law_640 : decode code 640 = .ok (.iload_n 3, 1) := by decide +kernel
theorem dL_law_641 : decode code 641 = .ok (.iconst 2, 1) := by decide +kernel
theorem dL_law_642 : decode code 642 = .ok (.iadd, 1) := by decide +kernel
theorem dL_law_643 : decode code 643 = .ok (.iaload, 1) := by decide +kernel
theorem dL_law_644 : decode code 644 = .ok (.invokevirtual 72, 3) := by decide +kernel
theorem dL_law_647 : decode code 647 = .ok (.aload_n 2, 1) := by decide +kernel
theorem dL_law_648 : decode code 648 = .ok (.aload_n 0, 1) := by decide +kernel
theorem dL_law_649 : decode code 649 = .ok (.iload_n 3, 1) := by decide +kernel
theorem dL_law_650 : decode code 650 = .ok (.iconst 1, 1) := by decide +kernel
theorem dL_law_651 : decode code 651 = .ok (.iadd, 1) := by decide +kernel
theorem dL_law_652 : decode code 652 = .ok (.iaload, 1) := by decide +kernel
theorem dL_law_653 : decode code 653 = .ok (.aload_n 0, 1) := by decide +kernel
theorem dL_law_654 : decode code 654 = .ok (.iload_n 3, 1) := by decide +kernel
theorem dL_law_655 : decode code 655 = .ok (.iconst 2, 1) := by decide +kernel
theorem dL_law_656 : decode code 656 = .ok (.iadd, 1) := by decide +kernel
theorem dL_law_657 : decode code 657 = .ok (.iaload, 1) := by decide +kernel
theorem dL_law_658 : decode code 658 = .ok (.invokevirtual 75, 3) := by decide +kernel
theorem dL_law_661 : decode code 661 = .ok (.if_icmp .eq 550, 3) := by decide +kernel
theorem dL_law_666 : decode code 666 = .ok (.aload_n 1, 1) := by decide +kernel
theorem dL_law_667 : decode code 667 = .ok (.aload_n 0, 1) := by decide +kernel
theorem dL_law_668 : decode code 668 = .ok (.iload_n 3, 1) := by decide +kernel
theorem dL_law_669 : decode code 669 = .ok (.iconst 1, 1) := by decide +kernel
theorem dL_law_670 : decode code 670 = .ok (.iadd, 1) := by decide +kernel
theorem dL_law_671 : decode code 671 = .ok (.iaload, 1) := by decide +kernel
theorem dL_law_672 : decode code 672 = .ok (.aload_n 0, 1) := by decide +kernel
theorem dL_law_673 : decode code 673 = .ok (.iload_n 3, 1) := by decide +kernel
theorem dL_law_674 : decode code 674 = .ok (.iconst 2, 1) := by decide +kernel
theorem dL_law_675 : decode code 675 = .ok (.iadd, 1) := by decide +kernel
theorem dL_law_676 : decode code 676 = .ok (.iaload, 1) := by decide +kernel
theorem dL_law_677 : decode code 677 = .ok (.aload_n 0, 1) := by decide +kernel
theorem dL_law_678 : decode code 678 = .ok (.iload_n 3, 1) := by decide +kernel
theorem dL_law_679 : decode code 679 = .ok (.iconst 3, 1) := by decide +kernel
theorem dL_law_680 : decode code 680 = .ok (.iadd, 1) := by decide +kernel
theorem dL_law_681 : decode code 681 = .ok (.iaload, 1) := by decide +kernel
theorem dL_law_682 : decode code 682 = .ok (.invokevirtual 76, 3) := by decide +kernel
theorem dL_law_685 : decode code 685 = .ok (.aload_n 2, 1) := by decide +kernel
theorem dL_law_686 : decode code 686 = .ok (.aload_n 0, 1) := by decide +kernel
theorem dL_law_687 : decode code 687 = .ok (.iload_n 3, 1) := by decide +kernel
theorem dL_law_688 : decode code 688 = .ok (.iconst 1, 1) := by decide +kernel
theorem dL_law_689 : decode code 689 = .ok (.iadd, 1) := by decide +kernel
theorem dL_law_690 : decode code 690 = .ok (.iaload, 1) := by decide +kernel
theorem dL_law_691 : decode code 691 = .ok (.aload_n 0, 1) := by decide +kernel
theorem dL_law_692 : decode code 692 = .ok (.iload_n 3, 1) := by decide +kernel
theorem dL_law_693 : decode code 693 = .ok (.iconst 2, 1) := by decide +kernel
theorem dL_law_694 : decode code 694 = .ok (.iadd, 1) := by decide +kernel
theorem dL_law_695 : decode code 695 = .ok (.iaload, 1) := by decide +kernel
theorem dL_law_696 : decode code 696 = .ok (.aload_n 0, 1) := by decide +kernel
theorem dL_law_697 : decode code 697 = .ok (.iload_n 3, 1) := by decide +kernel
theorem dL_law_698 : decode code 698 = .ok (.iconst 3, 1) := by decide +kernel
theorem dL_law_699 : decode code 699 = .ok (.iadd, 1) := by decide +kernel
theorem dL_law_700 : decode code 700 = .ok (.iaload, 1) := by decide +kernel
theorem dL_law_701 : decode code 701 = .ok (.invokevirtual 79, 3) := by decide +kernel
theorem dL_law_704 : decode code 704 = .ok (.if_icmp .eq 507, 3) := by decide +kernel
theorem dL_law_709 : decode code 709 = .ok (.aload_n 1, 1) := by decide +kernel
theorem dL_law_710 : decode code 710 = .ok (.aload_n 0, 1) := by decide +kernel
theorem dL_law_711 : decode code 711 = .ok (.iload_n 3, 1) := by decide +kernel
theorem dL_law_712 : decode code 712 = .ok (.iconst 1, 1) := by decide +kernel
theorem dL_law_713 : decode code 713 = .ok (.iadd, 1) := by decide +kernel
theorem dL_law_714 : decode code 714 = .ok (.iaload, 1) := by decide +kernel
theorem dL_law_715 : decode code 715 = .ok (.aload_n 0, 1) := by decide +kernel
theorem dL_law_716 : decode code 716 = .ok (.iload_n 3, 1) := by decide +kernel
theorem dL_law_717 : decode code 717 = .ok (.iconst 2, 1) := by decide +kernel
theorem dL_law_718 : decode code 718 = .ok (.iadd, 1) := by decide +kernel
theorem dL_law_719 : decode code 719 = .ok (.iaload, 1) := by decide +kernel
theorem dL_law_720 : decode code 720 = .ok (.ifCond .eq 7, 3) := by decide +kernel
theorem dL_law_727 : decode code 727 = .ok (.iconst 0, 1) := by decide +kernel
theorem dL_law_728 : decode code 728 = .ok (.invokevirtual 80, 3) := by decide +kernel
theorem dL_law_731 : decode code 731 = .ok (.aload_n 2, 1) := by decide +kernel
theorem dL_law_732 : decode code 732 = .ok (.aload_n 0, 1) := by decide +kernel
theorem dL_law_733 : decode code 733 = .ok (.iload_n 3, 1) := by decide +kernel
theorem dL_law_734 : decode code 734 = .ok (.iconst 1, 1) := by decide +kernel
theorem dL_law_735 : decode code 735 = .ok (.iadd, 1) := by decide +kernel
theorem dL_law_736 : decode code 736 = .ok (.iaload, 1) := by decide +kernel
theorem dL_law_737 : decode code 737 = .ok (.aload_n 0, 1) := by decide +kernel
theorem dL_law_738 : decode code 738 = .ok (.iload_n 3, 1) := by decide +kernel
theorem dL_law_739 : decode code 739 = .ok (.iconst 2, 1) := by decide +kernel
theorem dL_law_740 : decode code 740 = .ok (.iadd, 1) := by decide +kernel
theorem dL_law_741 : decode code 741 = .ok (.iaload, 1) := by decide +kernel
theorem dL_law_742 : decode code 742 = .ok (.ifCond .eq 7, 3) := by decide +kernel
theorem dL_law_749 : decode code 749 = .ok (.iconst 0, 1) := by decide +kernel
theorem dL_law_750 : decode code 750 = .ok (.invokevirtual 83, 3) := by decide +kernel
theorem dL_law_753 : decode code 753 = .ok (.if_icmp .eq 458, 3) := by decide +kernel
theorem dL_law_723 : decode code 723 = .ok (.iconst 1, 1) := by decide +kernel
theorem dL_law_724 : decode code 724 = .ok (.goto 4, 3) := by decide +kernel
theorem dL_law_745 : decode code 745 = .ok (.iconst 1, 1) := by decide +kernel
theorem dL_law_746 : decode code 746 = .ok (.goto 4, 3) := by decide +kernel
theorem dL_law_758 : decode code 758 = .ok (.aload_n 1, 1) := by decide +kernel
theorem dL_law_759 : decode code 759 = .ok (.aload_n 0, 1) := by decide +kernel
theorem dL_law_760 : decode code 760 = .ok (.iload_n 3, 1) := by decide +kernel
theorem dL_law_761 : decode code 761 = .ok (.iconst 1, 1) := by decide +kernel
theorem dL_law_762 : decode code 762 = .ok (.iadd, 1) := by decide +kernel
theorem dL_law_763 : decode code 763 = .ok (.iaload, 1) := by decide +kernel
theorem dL_law_764 : decode code 764 = .ok (.aload_n 0, 1) := by decide +kernel
theorem dL_law_765 : decode code 765 = .ok (.iload_n 3, 1) := by decide +kernel
theorem dL_law_766 : decode code 766 = .ok (.iconst 2, 1) := by decide +kernel
theorem dL_law_767 : decode code 767 = .ok (.iadd, 1) := by decide +kernel
theorem dL_law_768 : decode code 768 = .ok (.iaload, 1) := by decide +kernel
theorem dL_law_769 : decode code 769 = .ok (.invokevirtual 84, 3) := by decide +kernel
theorem dL_law_772 : decode code 772 = .ok (.aload_n 2, 1) := by decide +kernel
theorem dL_law_773 : decode code 773 = .ok (.aload_n 0, 1) := by decide +kernel
theorem dL_law_774 : decode code 774 = .ok (.iload_n 3, 1) := by decide +kernel
theorem dL_law_775 : decode code 775 = .ok (.iconst 1, 1) := by decide +kernel
theorem dL_law_776 : decode code 776 = .ok (.iadd, 1) := by decide +kernel
theorem dL_law_777 : decode code 777 = .ok (.iaload, 1) := by decide +kernel
theorem dL_law_778 : decode code 778 = .ok (.aload_n 0, 1) := by decide +kernel
theorem dL_law_779 : decode code 779 = .ok (.iload_n 3, 1) := by decide +kernel
theorem dL_law_780 : decode code 780 = .ok (.iconst 2, 1) := by decide +kernel
theorem dL_law_781 : decode code 781 = .ok (.iadd, 1) := by decide +kernel
theorem dL_law_782 : decode code 782 = .ok (.iaload, 1) := by decide +kernel
theorem dL_law_783 : decode code 783 = .ok (.invokevirtual 87, 3) := by decide +kernel
theorem dL_law_786 : decode code 786 = .ok (.if_icmp .eq 425, 3) := by decide +kernel
theorem dL_law_791 : decode code 791 = .ok (.aload_n 1, 1) := by decide +kernel
theorem dL_law_792 : decode code 792 = .ok (.aload_n 0, 1) := by decide +kernel
theorem dL_law_793 : decode code 793 = .ok (.iload_n 3, 1) := by decide +kernel
theorem dL_law_794 : decode code 794 = .ok (.iconst 1, 1) := by decide +kernel
theorem dL_law_795 : decode code 795 = .ok (.iadd, 1) := by decide +kernel
theorem dL_law_796 : decode code 796 = .ok (.iaload, 1) := by decide +kernel
theorem dL_law_797 : decode code 797 = .ok (.aload_n 0, 1) := by decide +kernel
theorem dL_law_798 : decode code 798 = .ok (.iload_n 3, 1) := by decide +kernel
theorem dL_law_799 : decode code 799 = .ok (.iconst 2, 1) := by decide +kernel
theorem dL_law_800 : decode code 800 = .ok (.iadd, 1) := by decide +kernel
theorem dL_law_801 : decode code 801 = .ok (.iaload, 1) := by decide +kernel
theorem dL_law_802 : decode code 802 = .ok (.invokevirtual 88, 3) := by decide +kernel
theorem dL_law_805 : decode code 805 = .ok (.aload_n 2, 1) := by decide +kernel
theorem dL_law_806 : decode code 806 = .ok (.aload_n 0, 1) := by decide +kernel
theorem dL_law_807 : decode code 807 = .ok (.iload_n 3, 1) := by decide +kernel
theorem dL_law_808 : decode code 808 = .ok (.iconst 1, 1) := by decide +kernel
theorem dL_law_809 : decode code 809 = .ok (.iadd, 1) := by decide +kernel
theorem dL_law_810 : decode code 810 = .ok (.iaload, 1) := by decide +kernel
theorem dL_law_811 : decode code 811 = .ok (.aload_n 0, 1) := by decide +kernel
theorem dL_law_812 : decode code 812 = .ok (.iload_n 3, 1) := by decide +kernel
theorem dL_law_813 : decode code 813 = .ok (.iconst 2, 1) := by decide +kernel
theorem dL_law_814 : decode code 814 = .ok (.iadd, 1) := by decide +kernel
theorem dL_law_815 : decode code 815 = .ok (.iaload, 1) := by decide +kernel
theorem dL_law_816 : decode code 816 = .ok (.invokevirtual 91, 3) := by decide +kernel
theorem dL_law_819 : decode code 819 = .ok (.if_icmp .eq 392, 3) := by decide +kernel
theorem dL_law_824 : decode code 824 = .ok (.aload_n 1, 1) := by decide +kernel
theorem dL_law_825 : decode code 825 = .ok (.invokevirtual 92, 3) := by decide +kernel
theorem dL_law_828 : decode code 828 = .ok (.aload_n 2, 1) := by decide +kernel
theorem dL_law_829 : decode code 829 = .ok (.invokevirtual 95, 3) := by decide +kernel
theorem dL_law_832 : decode code 832 = .ok (.if_icmp .eq 379, 3) := by decide +kernel
theorem dL_law_837 : decode code 837 = .ok (.aload_n 1, 1) := by decide +kernel
theorem dL_law_838 : decode code 838 = .ok (.aload_n 0, 1) := by decide +kernel
theorem dL_law_839 : decode code 839 = .ok (.iload_n 3, 1) := by decide +kernel
theorem dL_law_840 : decode code 840 = .ok (.iconst 1, 1) := by decide +kernel
theorem dL_law_841 : decode code 841 = .ok (.iadd, 1) := by decide +kernel
theorem dL_law_842 : decode code 842 = .ok (.iaload, 1) := by decide +kernel
theorem dL_law_843 : decode code 843 = .ok (.invokevirtual 96, 3) := by decide +kernel
theorem dL_law_846 : decode code 846 = .ok (.aload_n 2, 1) := by decide +kernel
theorem dL_law_847 : decode code 847 = .ok (.aload_n 0, 1) := by decide +kernel
theorem dL_law_848 : decode code 848 = .ok (.iload_n 3, 1) := by decide +kernel
theorem dL_law_849 : decode code 849 = .ok (.iconst 1, 1) := by decide +kernel
theorem dL_law_850 : decode code 850 = .ok (.iadd, 1) := by decide +kernel
theorem dL_law_851 : decode code 851 = .ok (.iaload, 1) := by decide +kernel
theorem dL_law_852 : decode code 852 = .ok (.invokevirtual 100, 3) := by decide +kernel
theorem dL_law_855 : decode code 855 = .ok (.if_icmp .eq 356, 3) := by decide +kernel
theorem dL_law_860 : decode code 860 = .ok (.aload_n 1, 1) := by decide +kernel
theorem dL_law_861 : decode code 861 = .ok (.aload_n 0, 1) := by decide +kernel
theorem dL_law_862 : decode code 862 = .ok (.iload_n 3, 1) := by decide +kernel
theorem dL_law_863 : decode code 863 = .ok (.iconst 1, 1) := by decide +kernel
theorem dL_law_864 : decode code 864 = .ok (.iadd, 1) := by decide +kernel
theorem dL_law_865 : decode code 865 = .ok (.iaload, 1) := by decide +kernel
theorem dL_law_866 : decode code 866 = .ok (.ifCond .eq 7, 3) := by decide +kernel
theorem dL_law_873 : decode code 873 = .ok (.iconst 0, 1) := by decide +kernel
theorem dL_law_874 : decode code 874 = .ok (.invokevirtual 101, 3) := by decide +kernel
theorem dL_law_877 : decode code 877 = .ok (.aload_n 2, 1) := by decide +kernel
theorem dL_law_878 : decode code 878 = .ok (.aload_n 0, 1) := by decide +kernel
theorem dL_law_879 : decode code 879 = .ok (.iload_n 3, 1) := by decide +kernel
theorem dL_law_880 : decode code 880 = .ok (.iconst 1, 1) := by decide +kernel
theorem dL_law_881 : decode code 881 = .ok (.iadd, 1) := by decide +kernel
theorem dL_law_882 : decode code 882 = .ok (.iaload, 1) := by decide +kernel
theorem dL_law_883 : decode code 883 = .ok (.ifCond .eq 7, 3) := by decide +kernel
theorem dL_law_890 : decode code 890 = .ok (.iconst 0, 1) := by decide +kernel
theorem dL_law_891 : decode code 891 = .ok (.invokevirtual 105, 3) := by decide +kernel
theorem dL_law_894 : decode code 894 = .ok (.if_icmp .eq 317, 3) := by decide +kernel
theorem dL_law_869 : decode code 869 = .ok (.iconst 1, 1) := by decide +kernel
theorem dL_law_870 : decode code 870 = .ok (.goto 4, 3) := by decide +kernel
theorem dL_law_886 : decode code 886 = .ok (.iconst 1, 1) := by decide +kernel
theorem dL_law_887 : decode code 887 = .ok (.goto 4, 3) := by decide +kernel
theorem dL_law_899 : decode code 899 = .ok (.aload_n 1, 1) := by decide +kernel
theorem dL_law_900 : decode code 900 = .ok (.aload_n 0, 1) := by decide +kernel
theorem dL_law_901 : decode code 901 = .ok (.iload_n 3, 1) := by decide +kernel
theorem dL_law_902 : decode code 902 = .ok (.iconst 1, 1) := by decide +kernel
theorem dL_law_903 : decode code 903 = .ok (.iadd, 1) := by decide +kernel
theorem dL_law_904 : decode code 904 = .ok (.iaload, 1) := by decide +kernel
theorem dL_law_905 : decode code 905 = .ok (.aload_n 0, 1) := by decide +kernel
theorem dL_law_906 : decode code 906 = .ok (.iload_n 3, 1) := by decide +kernel
theorem dL_law_907 : decode code 907 = .ok (.iconst 2, 1) := by decide +kernel
theorem dL_law_908 : decode code 908 = .ok (.iadd, 1) := by decide +kernel
theorem dL_law_909 : decode code 909 = .ok (.iaload, 1) := by decide +kernel
theorem dL_law_910 : decode code 910 = .ok (.invokevirtual 106, 3) := by decide +kernel
theorem dL_law_913 : decode code 913 = .ok (.aload_n 2, 1) := by decide +kernel
theorem dL_law_914 : decode code 914 = .ok (.aload_n 0, 1) := by decide +kernel
theorem dL_law_915 : decode code 915 = .ok (.iload_n 3, 1) := by decide +kernel
theorem dL_law_916 : decode code 916 = .ok (.iconst 1, 1) := by decide +kernel
theorem dL_law_917 : decode code 917 = .ok (.iadd, 1) := by decide +kernel
theorem dL_law_918 : decode code 918 = .ok (.iaload, 1) := by decide +kernel
theorem dL_law_919 : decode code 919 = .ok (.aload_n 0, 1) := by decide +kernel
theorem dL_law_920 : decode code 920 = .ok (.iload_n 3, 1) := by decide +kernel
theorem dL_law_921 : decode code 921 = .ok (.iconst 2, 1) := by decide +kernel
theorem dL_law_922 : decode code 922 = .ok (.iadd, 1) := by decide +kernel
theorem dL_law_923 : decode code 923 = .ok (.iaload, 1) := by decide +kernel
theorem dL_law_924 : decode code 924 = .ok (.invokevirtual 109, 3) := by decide +kernel
theorem dL_law_927 : decode code 927 = .ok (.if_icmp .eq 284, 3) := by decide +kernel
theorem dL_law_932 : decode code 932 = .ok (.aload_n 1, 1) := by decide +kernel
theorem dL_law_933 : decode code 933 = .ok (.aload_n 0, 1) := by decide +kernel
theorem dL_law_934 : decode code 934 = .ok (.iload_n 3, 1) := by decide +kernel
theorem dL_law_935 : decode code 935 = .ok (.iconst 1, 1) := by decide +kernel
theorem dL_law_936 : decode code 936 = .ok (.iadd, 1) := by decide +kernel
theorem dL_law_937 : decode code 937 = .ok (.iaload, 1) := by decide +kernel
theorem dL_law_938 : decode code 938 = .ok (.aload_n 0, 1) := by decide +kernel
theorem dL_law_939 : decode code 939 = .ok (.iload_n 3, 1) := by decide +kernel
theorem dL_law_940 : decode code 940 = .ok (.iconst 2, 1) := by decide +kernel
theorem dL_law_941 : decode code 941 = .ok (.iadd, 1) := by decide +kernel
theorem dL_law_942 : decode code 942 = .ok (.iaload, 1) := by decide +kernel
theorem dL_law_943 : decode code 943 = .ok (.invokevirtual 110, 3) := by decide +kernel
theorem dL_law_946 : decode code 946 = .ok (.aload_n 2, 1) := by decide +kernel
theorem dL_law_947 : decode code 947 = .ok (.aload_n 0, 1) := by decide +kernel
theorem dL_law_948 : decode code 948 = .ok (.iload_n 3, 1) := by decide +kernel
theorem dL_law_949 : decode code 949 = .ok (.iconst 1, 1) := by decide +kernel
theorem dL_law_950 : decode code 950 = .ok (.iadd, 1) := by decide +kernel
theorem dL_law_951 : decode code 951 = .ok (.iaload, 1) := by decide +kernel
theorem dL_law_952 : decode code 952 = .ok (.aload_n 0, 1) := by decide +kernel
theorem dL_law_953 : decode code 953 = .ok (.iload_n 3, 1) := by decide +kernel
theorem dL_law_954 : decode code 954 = .ok (.iconst 2, 1) := by decide +kernel
theorem dL_law_955 : decode code 955 = .ok (.iadd, 1) := by decide +kernel
theorem dL_law_956 : decode code 956 = .ok (.iaload, 1) := by decide +kernel
theorem dL_law_957 : decode code 957 = .ok (.invokevirtual 113, 3) := by decide +kernel
theorem dL_law_960 : decode code 960 = .ok (.if_icmp .eq 251, 3) := by decide +kernel
theorem dL_law_965 : decode code 965 = .ok (.aload_n 1, 1) := by decide +kernel
theorem dL_law_966 : decode code 966 = .ok (.aload_n 0, 1) := by decide +kernel
theorem dL_law_967 : decode code 967 = .ok (.iload_n 3, 1) := by decide +kernel
theorem dL_law_968 : decode code 968 = .ok (.iconst 1, 1) := by decide +kernel
theorem dL_law_969 : decode code 969 = .ok (.iadd, 1) := by decide +kernel
theorem dL_law_970 : decode code 970 = .ok (.iaload, 1) := by decide +kernel
theorem dL_law_971 : decode code 971 = .ok (.aload_n 0, 1) := by decide +kernel
theorem dL_law_972 : decode code 972 = .ok (.iload_n 3, 1) := by decide +kernel
theorem dL_law_973 : decode code 973 = .ok (.iconst 2, 1) := by decide +kernel
theorem dL_law_974 : decode code 974 = .ok (.iadd, 1) := by decide +kernel
theorem dL_law_975 : decode code 975 = .ok (.iaload, 1) := by decide +kernel
theorem dL_law_976 : decode code 976 = .ok (.ifCond .eq 7, 3) := by decide +kernel
theorem dL_law_983 : decode code 983 = .ok (.iconst 0, 1) := by decide +kernel
theorem dL_law_984 : decode code 984 = .ok (.aload_n 0, 1) := by decide +kernel
theorem dL_law_985 : decode code 985 = .ok (.iload_n 3, 1) := by decide +kernel
theorem dL_law_986 : decode code 986 = .ok (.iconst 3, 1) := by decide +kernel
theorem dL_law_987 : decode code 987 = .ok (.iadd, 1) := by decide +kernel
theorem dL_law_988 : decode code 988 = .ok (.iaload, 1) := by decide +kernel
theorem dL_law_989 : decode code 989 = .ok (.ifCond .eq 7, 3) := by decide +kernel
theorem dL_law_996 : decode code 996 = .ok (.iconst 0, 1) := by decide +kernel
theorem dL_law_997 : decode code 997 = .ok (.invokevirtual 114, 3) := by decide +kernel
theorem dL_law_1000 : decode code 1000 = .ok (.aload_n 2, 1) := by decide +kernel
theorem dL_law_1001 : decode code 1001 = .ok (.aload_n 0, 1) := by decide +kernel
theorem dL_law_1002 : decode code 1002 = .ok (.iload_n 3, 1) := by decide +kernel
theorem dL_law_1003 : decode code 1003 = .ok (.iconst 1, 1) := by decide +kernel
theorem dL_law_1004 : decode code 1004 = .ok (.iadd, 1) := by decide +kernel
theorem dL_law_1005 : decode code 1005 = .ok (.iaload, 1) := by decide +kernel
theorem dL_law_1006 : decode code 1006 = .ok (.aload_n 0, 1) := by decide +kernel
theorem dL_law_1007 : decode code 1007 = .ok (.iload_n 3, 1) := by decide +kernel
theorem dL_law_1008 : decode code 1008 = .ok (.iconst 2, 1) := by decide +kernel
theorem dL_law_1009 : decode code 1009 = .ok (.iadd, 1) := by decide +kernel
theorem dL_law_1010 : decode code 1010 = .ok (.iaload, 1) := by decide +kernel
theorem dL_law_1011 : decode code 1011 = .ok (.ifCond .eq 7, 3) := by decide +kernel
theorem dL_law_1018 : decode code 1018 = .ok (.iconst 0, 1) := by decide +kernel
theorem dL_law_1019 : decode code 1019 = .ok (.aload_n 0, 1) := by decide +kernel
theorem dL_law_1020 : decode code 1020 = .ok (.iload_n 3, 1) := by decide +kernel
theorem dL_law_1021 : decode code 1021 = .ok (.iconst 3, 1) := by decide +kernel
theorem dL_law_1022 : decode code 1022 = .ok (.iadd, 1) := by decide +kernel
theorem dL_law_1023 : decode code 1023 = .ok (.iaload, 1) := by decide +kernel
theorem dL_law_1024 : decode code 1024 = .ok (.ifCond .eq 7, 3) := by decide +kernel
theorem dL_law_1031 : decode code 1031 = .ok (.iconst 0, 1) := by decide +kernel
theorem dL_law_1032 : decode code 1032 = .ok (.invokevirtual 118, 3) := by decide +kernel
theorem dL_law_1035 : decode code 1035 = .ok (.if_icmp .eq 176, 3) := by decide +kernel
theorem dL_law_992 : decode code 992 = .ok (.iconst 1, 1) := by decide +kernel
theorem dL_law_993 : decode code 993 = .ok (.goto 4, 3) := by decide +kernel
theorem dL_law_1027 : decode code 1027 = .ok (.iconst 1, 1) := by decide +kernel
theorem dL_law_1028 : decode code 1028 = .ok (.goto 4, 3) := by decide +kernel
theorem dL_law_979 : decode code 979 = .ok (.iconst 1, 1) := by decide +kernel
theorem dL_law_980 : decode code 980 = .ok (.goto 4, 3) := by decide +kernel
theorem dL_law_1014 : decode code 1014 = .ok (.iconst 1, 1) := by decide +kernel
theorem dL_law_1015 : decode code 1015 = .ok (.goto 4, 3) := by decide +kernel
theorem dL_law_1040 : decode code 1040 = .ok (.aload_n 1, 1) := by decide +kernel
theorem dL_law_1041 : decode code 1041 = .ok (.aload_n 0, 1) := by decide +kernel
theorem dL_law_1042 : decode code 1042 = .ok (.iload_n 3, 1) := by decide +kernel
theorem dL_law_1043 : decode code 1043 = .ok (.iconst 1, 1) := by decide +kernel
theorem dL_law_1044 : decode code 1044 = .ok (.iadd, 1) := by decide +kernel
theorem dL_law_1045 : decode code 1045 = .ok (.iaload, 1) := by decide +kernel
theorem dL_law_1046 : decode code 1046 = .ok (.invokevirtual 119, 3) := by decide +kernel
theorem dL_law_1049 : decode code 1049 = .ok (.aload_n 2, 1) := by decide +kernel
theorem dL_law_1050 : decode code 1050 = .ok (.aload_n 0, 1) := by decide +kernel
theorem dL_law_1051 : decode code 1051 = .ok (.iload_n 3, 1) := by decide +kernel
theorem dL_law_1052 : decode code 1052 = .ok (.iconst 1, 1) := by decide +kernel
theorem dL_law_1053 : decode code 1053 = .ok (.iadd, 1) := by decide +kernel
theorem dL_law_1054 : decode code 1054 = .ok (.iaload, 1) := by decide +kernel
theorem dL_law_1055 : decode code 1055 = .ok (.invokevirtual 122, 3) := by decide +kernel
theorem dL_law_1058 : decode code 1058 = .ok (.if_icmp .eq 153, 3) := by decide +kernel
theorem dL_law_1063 : decode code 1063 = .ok (.aload_n 1, 1) := by decide +kernel
theorem dL_law_1064 : decode code 1064 = .ok (.aload_n 0, 1) := by decide +kernel
theorem dL_law_1065 : decode code 1065 = .ok (.iload_n 3, 1) := by decide +kernel
theorem dL_law_1066 : decode code 1066 = .ok (.iconst 1, 1) := by decide +kernel
theorem dL_law_1067 : decode code 1067 = .ok (.iadd, 1) := by decide +kernel
theorem dL_law_1068 : decode code 1068 = .ok (.iaload, 1) := by decide +kernel
theorem dL_law_1069 : decode code 1069 = .ok (.invokevirtual 123, 3) := by decide +kernel
theorem dL_law_1072 : decode code 1072 = .ok (.aload_n 2, 1) := by decide +kernel
theorem dL_law_1073 : decode code 1073 = .ok (.aload_n 0, 1) := by decide +kernel
theorem dL_law_1074 : decode code 1074 = .ok (.iload_n 3, 1) := by decide +kernel
theorem dL_law_1075 : decode code 1075 = .ok (.iconst 1, 1) := by decide +kernel
theorem dL_law_1076 : decode code 1076 = .ok (.iadd, 1) := by decide +kernel
theorem dL_law_1077 : decode code 1077 = .ok (.iaload, 1) := by decide +kernel
theorem dL_law_1078 : decode code 1078 = .ok (.invokevirtual 126, 3) := by decide +kernel
theorem dL_law_1081 : decode code 1081 = .ok (.if_icmp .eq 130, 3) := by decide +kernel
theorem dL_law_1086 : decode code 1086 = .ok (.aload_n 1, 1) := by decide +kernel
theorem dL_law_1087 : decode code 1087 = .ok (.aload_n 0, 1) := by decide +kernel
theorem dL_law_1088 : decode code 1088 = .ok (.iload_n 3, 1) := by decide +kernel
theorem dL_law_1089 : decode code 1089 = .ok (.iconst 1, 1) := by decide +kernel
theorem dL_law_1090 : decode code 1090 = .ok (.iadd, 1) := by decide +kernel
theorem dL_law_1091 : decode code 1091 = .ok (.iaload, 1) := by decide +kernel
theorem dL_law_1092 : decode code 1092 = .ok (.invokevirtual 127, 3) := by decide +kernel
theorem dL_law_1095 : decode code 1095 = .ok (.aload_n 2, 1) := by decide +kernel
theorem dL_law_1096 : decode code 1096 = .ok (.aload_n 0, 1) := by decide +kernel
theorem dL_law_1097 : decode code 1097 = .ok (.iload_n 3, 1) := by decide +kernel
theorem dL_law_1098 : decode code 1098 = .ok (.iconst 1, 1) := by decide +kernel
theorem dL_law_1099 : decode code 1099 = .ok (.iadd, 1) := by decide +kernel
theorem dL_law_1100 : decode code 1100 = .ok (.iaload, 1) := by decide +kernel
theorem dL_law_1101 : decode code 1101 = .ok (.invokevirtual 130, 3) := by decide +kernel
theorem dL_law_1104 : decode code 1104 = .ok (.if_icmp .eq 107, 3) := by decide +kernel
theorem dL_law_1109 : decode code 1109 = .ok (.aload_n 1, 1) := by decide +kernel
theorem dL_law_1110 : decode code 1110 = .ok (.aload_n 0, 1) := by decide +kernel
theorem dL_law_1111 : decode code 1111 = .ok (.iload_n 3, 1) := by decide +kernel
theorem dL_law_1112 : decode code 1112 = .ok (.iconst 1, 1) := by decide +kernel
theorem dL_law_1113 : decode code 1113 = .ok (.iadd, 1) := by decide +kernel
theorem dL_law_1114 : decode code 1114 = .ok (.iaload, 1) := by decide +kernel
theorem dL_law_1115 : decode code 1115 = .ok (.aload_n 0, 1) := by decide +kernel
theorem dL_law_1116 : decode code 1116 = .ok (.iload_n 3, 1) := by decide +kernel
theorem dL_law_1117 : decode code 1117 = .ok (.iconst 2, 1) := by decide +kernel
theorem dL_law_1118 : decode code 1118 = .ok (.iadd, 1) := by decide +kernel
theorem dL_law_1119 : decode code 1119 = .ok (.iaload, 1) := by decide +kernel
theorem dL_law_1120 : decode code 1120 = .ok (.invokevirtual 131, 3) := by decide +kernel
theorem dL_law_1123 : decode code 1123 = .ok (.aload_n 2, 1) := by decide +kernel
theorem dL_law_1124 : decode code 1124 = .ok (.aload_n 0, 1) := by decide +kernel
theorem dL_law_1125 : decode code 1125 = .ok (.iload_n 3, 1) := by decide +kernel
theorem dL_law_1126 : decode code 1126 = .ok (.iconst 1, 1) := by decide +kernel
theorem dL_law_1127 : decode code 1127 = .ok (.iadd, 1) := by decide +kernel
theorem dL_law_1128 : decode code 1128 = .ok (.iaload, 1) := by decide +kernel
theorem dL_law_1129 : decode code 1129 = .ok (.aload_n 0, 1) := by decide +kernel
theorem dL_law_1130 : decode code 1130 = .ok (.iload_n 3, 1) := by decide +kernel
theorem dL_law_1131 : decode code 1131 = .ok (.iconst 2, 1) := by decide +kernel
theorem dL_law_1132 : decode code 1132 = .ok (.iadd, 1) := by decide +kernel
theorem dL_law_1133 : decode code 1133 = .ok (.iaload, 1) := by decide +kernel
theorem dL_law_1134 : decode code 1134 = .ok (.invokevirtual 134, 3) := by decide +kernel
theorem dL_law_1137 : decode code 1137 = .ok (.if_icmp .eq 74, 3) := by decide +kernel
theorem dL_law_1142 : decode code 1142 = .ok (.aload_n 1, 1) := by decide +kernel
theorem dL_law_1143 : decode code 1143 = .ok (.aload_n 0, 1) := by decide +kernel
theorem dL_law_1144 : decode code 1144 = .ok (.iload_n 3, 1) := by decide +kernel
theorem dL_law_1145 : decode code 1145 = .ok (.iconst 1, 1) := by decide +kernel
theorem dL_law_1146 : decode code 1146 = .ok (.iadd, 1) := by decide +kernel
theorem dL_law_1147 : decode code 1147 = .ok (.iaload, 1) := by decide +kernel
theorem dL_law_1148 : decode code 1148 = .ok (.invokevirtual 135, 3) := by decide +kernel
theorem dL_law_1151 : decode code 1151 = .ok (.aload_n 2, 1) := by decide +kernel
theorem dL_law_1152 : decode code 1152 = .ok (.aload_n 0, 1) := by decide +kernel
theorem dL_law_1153 : decode code 1153 = .ok (.iload_n 3, 1) := by decide +kernel
theorem dL_law_1154 : decode code 1154 = .ok (.iconst 1, 1) := by decide +kernel
theorem dL_law_1155 : decode code 1155 = .ok (.iadd, 1) := by decide +kernel
theorem dL_law_1156 : decode code 1156 = .ok (.iaload, 1) := by decide +kernel
theorem dL_law_1157 : decode code 1157 = .ok (.invokevirtual 138, 3) := by decide +kernel
theorem dL_law_1160 : decode code 1160 = .ok (.if_icmp .eq 51, 3) := by decide +kernel
theorem dL_law_1165 : decode code 1165 = .ok (.aload_n 1, 1) := by decide +kernel
theorem dL_law_1166 : decode code 1166 = .ok (.aload_n 0, 1) := by decide +kernel
theorem dL_law_1167 : decode code 1167 = .ok (.iload_n 3, 1) := by decide +kernel
theorem dL_law_1168 : decode code 1168 = .ok (.iconst 1, 1) := by decide +kernel
theorem dL_law_1169 : decode code 1169 = .ok (.iadd, 1) := by decide +kernel
theorem dL_law_1170 : decode code 1170 = .ok (.iaload, 1) := by decide +kernel
theorem dL_law_1171 : decode code 1171 = .ok (.invokevirtual 139, 3) := by decide +kernel
theorem dL_law_1174 : decode code 1174 = .ok (.aload_n 2, 1) := by decide +kernel
theorem dL_law_1175 : decode code 1175 = .ok (.aload_n 0, 1) := by decide +kernel
theorem dL_law_1176 : decode code 1176 = .ok (.iload_n 3, 1) := by decide +kernel
theorem dL_law_1177 : decode code 1177 = .ok (.iconst 1, 1) := by decide +kernel
theorem dL_law_1178 : decode code 1178 = .ok (.iadd, 1) := by decide +kernel
theorem dL_law_1179 : decode code 1179 = .ok (.iaload, 1) := by decide +kernel
theorem dL_law_1180 : decode code 1180 = .ok (.invokevirtual 142, 3) := by decide +kernel
theorem dL_law_1183 : decode code 1183 = .ok (.if_icmp .eq 28, 3) := by decide +kernel
theorem dL_law_1188 : decode code 1188 = .ok (.aload_n 1, 1) := by decide +kernel
theorem dL_law_1189 : decode code 1189 = .ok (.aload_n 0, 1) := by decide +kernel
theorem dL_law_1190 : decode code 1190 = .ok (.iload_n 3, 1) := by decide +kernel
theorem dL_law_1191 : decode code 1191 = .ok (.iconst 1, 1) := by decide +kernel
theorem dL_law_1192 : decode code 1192 = .ok (.iadd, 1) := by decide +kernel
theorem dL_law_1193 : decode code 1193 = .ok (.iaload, 1) := by decide +kernel
theorem dL_law_1194 : decode code 1194 = .ok (.invokevirtual 143, 3) := by decide +kernel
theorem dL_law_1197 : decode code 1197 = .ok (.aload_n 2, 1) := by decide +kernel
theorem dL_law_1198 : decode code 1198 = .ok (.aload_n 0, 1) := by decide +kernel
theorem dL_law_1199 : decode code 1199 = .ok (.iload_n 3, 1) := by decide +kernel
theorem dL_law_1200 : decode code 1200 = .ok (.iconst 1, 1) := by decide +kernel
theorem dL_law_1201 : decode code 1201 = .ok (.iadd, 1) := by decide +kernel
theorem dL_law_1202 : decode code 1202 = .ok (.iaload, 1) := by decide +kernel
theorem dL_law_1203 : decode code 1203 = .ok (.invokevirtual 146, 3) := by decide +kernel
theorem dL_law_1206 : decode code 1206 = .ok (.if_icmp .eq 5, 3) := by decide +kernel
def R_law : String := "TuneLocksLaw"
def lw_P (b : Addr) (xs : List Int32) (args : Array Value) (s : State) : Prop := args = #[.ref b] ∧ s.IntsAt b xs ∧ xs.length ≤ 6 ∧ (Jvm.Cond.and given_1 narrow_1).before args s = true
def lw_Q (_ : Array Value) (s : State) (o : Outcome) (t : State) : Prop := o = .returned (some (.int 1)) ∧ Framed s o t [] 600000 7302250
def lw_Z (below : List Frame) (a : Array Value) (s : State) : State → Prop := fun t => ∃ o, t.status = .running ∧ Ended t below o ∧ lw_Q a s o t
/-- the law's own end, with 1 on the stack, nothing written that was there before, its room as the claim has it -/
theorem lw_ret {p : Program} {l : Launch} {e : Env} {s : State} {m : MethodId} {below : List Frame} {meth : Method} {c : Code} {b : Nat} (hx : p.tables.exec = Jvm.exec) (hb : c.code = code) (hr : meth.sig.returnType = ret) (hlocks : meth.locks = false) {pc : Nat} {H : Heap} {ls : Array Slot} (hdg : decode code pc = .ok (.ireturn, 1)) : W p l e room_1 s m #[Value.ref b] below meth c H [] 600000 7302250 (lw_Z below #[Value.ref b] s) (F0 m pc ls [.int 1]) := by
  intro T hT X
  obtain ⟨fs, hret, hrun, hended, hW, hframe⟩ := X.leave (v := some (.int 1)) (hlocks := hlocks) (fun h => by rw [hr] at h; cases h)
  have hmeth' : T.vm.method? m = some meth := X.method'
  refine ⟨T.setFrames fs, ?_, .returned (some (.int 1)), hrun, hended, rfl, ⟨_, rfl⟩, hW, hframe⟩
  jvm_step X.here [X.here.top, hx, hb, hdg, hmeth', hr, ret, narrow_b1]
  (try refine ⟨rfl, ?_⟩); (try refine ⟨rfl, ?_⟩)
  first | (intro acts; rw [hret _ acts rfl rfl rfl]) | rw [hret _ _ rfl rfl rfl]
  exact Steps.refl _
/-- what holds at the law's entry: the machine, the code, the tables' words (any of lw_tbl by 'hts w (by decide +kernel)'), the script of L ints xs at the cell b, what the Statement gives of the start (any of its parts by flat_of_before) -/
def lw_At (p : Program) (s : State) (m : MethodId) (meth : Method) (c : Code) (b L : Nat) (xs : Nat → Int32) : Prop :=
  p.tables.exec = Jvm.exec ∧ c.code = code ∧ meth.sig.returnType = ret ∧ c.maxLocals = 4 ∧ s.vm.findClass R_law = some m.cls ∧ (∀ w ∈ lw_tbl, w.before #[Value.ref b] s = true) ∧ va_X b L xs s s.heap ∧ b < s.heap.size ∧ meth.locks = false ∧ (Jvm.Cond.and given_1 narrow_1).before #[Value.ref b] s = true
set_option maxHeartbeats 4000000 in
set_option maxRecDepth 100000 in
theorem law_0 {p : Program} {e : Env} {s : State} {m : MethodId} {below : List Frame} {meth : Method} {c : Code} (l : Launch) {b : Nat} {xs : Nat → Int32} {G : va_G} {cy : Nat → ClassId} {x mo : Nat} {h k9 : Nat → Nat} {f : Nat → Nat → Int32} (hbm : ∀ k, k < 3 → f 2 k = -1) (hx : p.tables.exec = Jvm.exec) (hb : c.code = code) (hr : meth.sig.returnType = ret) (hml : c.maxLocals = 4) (hown : s.vm.findClass RL = some m.cls) (ht : ∀ w ∈ TBg, w.before #[Value.ref b] s = true) (hX : va_X b 6 xs s s.heap) (hbl : b < s.heap.size) (hlocks : meth.locks = false) (hK : va_K G vwCl (TY cy) s) (hN : NK s) {tsw : Nat} (hSW : SWt tsw (fun q : Nat => s.heap.size ≤ q) s) {H : Heap} {locs : List Loc} (hP : va_P G vwCl (WX cy x h ++ WM cy mo k9 f) H) (hD : va_D (fun q : Nat => s.heap.size ≤ q) (WX cy x h ++ WM cy mo k9 f)) (hS : va_S (fun q : Nat => s.heap.size ≤ q) s.heap H locs) {ls : Array Slot} (hl : lv_has ls 4 [(3, .int 0), (2, .ref mo), (1, .ref x), (0, .ref b)]) : W p l e room_1 s m #[Value.ref b] below meth c H locs 1000 40000 (lw_Z below #[Value.ref b] s) (F0 m 172 ls []) := by
  have hA : ∀ q : Nat, s.heap.size ≤ q → (fun q : Nat => s.heap.size ≤ q) q := fun _ h => h
  have hbA : ¬ (fun q : Nat => s.heap.size ≤ q) b := Nat.not_le.mpr hbl
  refine lv_aload_n hx hb dL_law_172 rfl (lv_at hl 2 rfl) ?_
  refine lv_aload_n hx hb dL_law_173 rfl (lv_at hl 3 rfl) ?_
  refine lv_iload_n hx hb dL_law_174 rfl (lv_at hl 0 rfl) ?_
  refine lv_iconst (v := 1) hx hb dL_law_175 (by decide) ?_
  refine lv_iadd hx hb dL_law_176 ?_
  refine ow_top 1 (by decide +kernel) ?_
  refine va_sld hx hb hX hbl hbA hS (in_lit (by decide +kernel)) dL_law_177 ?_
  refine ow_top (xs 1) rfl ?_
  refine lv_aload_n hx hb dL_law_178 rfl (lv_at hl 3 rfl) ?_
  refine lv_iload_n hx hb dL_law_179 rfl (lv_at hl 0 rfl) ?_
  refine lv_iconst (v := 2) hx hb dL_law_180 (by decide) ?_
  refine lv_iadd hx hb dL_law_181 ?_
  refine ow_top 2 (by decide +kernel) ?_
  refine va_sld hx hb hX hbl hbA hS (in_lit (by decide +kernel)) dL_law_182 ?_
  refine ow_top (xs 2) rfl ?_
  refine lv_aload_n hx hb dL_law_183 rfl (lv_at hl 3 rfl) ?_
  refine lv_iload_n hx hb dL_law_184 rfl (lv_at hl 0 rfl) ?_
  refine lv_iconst (v := 3) hx hb dL_law_185 (by decide) ?_
  refine lv_iadd hx hb dL_law_186 ?_
  refine ow_top 3 (by decide +kernel) ?_
  refine va_sld hx hb hX hbl hbA hS (in_lit (by decide +kernel)) dL_law_187 ?_
  refine ow_top (xs 3) rfl ?_
  refine lv_aload_n hx hb dL_law_188 rfl (lv_at hl 3 rfl) ?_
  refine lv_iload_n hx hb dL_law_189 rfl (lv_at hl 0 rfl) ?_
  refine lv_iconst (v := 4) hx hb dL_law_190 (by decide) ?_
  refine lv_iadd hx hb dL_law_191 ?_
  refine ow_top 4 (by decide +kernel) ?_
  refine va_sld hx hb hX hbl hbA hS (in_lit (by decide +kernel)) dL_law_192 ?_
  refine ow_top (xs 4) rfl ?_
  refine lv_aload_n hx hb dL_law_193 rfl (lv_at hl 3 rfl) ?_
  refine lv_iload_n hx hb dL_law_194 rfl (lv_at hl 0 rfl) ?_
  refine lv_iconst (v := 5) hx hb dL_law_195 (by decide) ?_
  refine lv_iadd hx hb dL_law_196 ?_
  refine ow_top 5 (by decide +kernel) ?_
  refine va_sld hx hb hX hbl hbA hS (in_lit (by decide +kernel)) dL_law_197 ?_
  refine ow_top (xs 5) rfl ?_
  have hPD := fr_left hP hD
  have hFc := fr_leftF hD hS hA
  refine va_calli (va_runV (As := [.int (xs 1), .int (xs 2), .int (xs 3), .int (xs 4), .int (xs 5)]) (rest := []) ⟨hx, hb, hml, hown, ht⟩ (x_feed l G cy _ x h (xs 1) (xs 2) (xs 3) (xs 4) (xs 5)) (cwV 5 ht (gv k_373 k_374 k_375 k_183 k_372) rfl rfl rfl (by decide +kernel) ⟨Nat.le_of_ble_eq_true rfl, Nat.le_of_ble_eq_true rfl⟩) ⟨En.blind, va_recv hK hPD.1 (ci := 11) (q0 := 0) rfl rfl, fun U hU hW => ⟨rfl, En.of hU hW hPD.1 hK hPD.2 hN⟩⟩ rfl rfl hl.1 rfl (lv_room (Nat.le_of_ble_eq_true rfl)) dL_law_198 ⟨Nat.le_of_ble_eq_true rfl, Nat.le_of_ble_eq_true rfl⟩) hS (fun q _ h => hFc q h) hFc (fun r_1 u t H locs ht9 hvm hwr_1 hB hz1 hk1 hS => ?_)
  obtain ⟨hP, hD⟩ := fr_drop hP hD hk1
  refine lv_aload_n hx hb dL_law_201 rfl (lv_at hl 1 rfl) ?_
  refine lv_aload_n hx hb dL_law_202 rfl (lv_at hl 3 rfl) ?_
  refine lv_iload_n hx hb dL_law_203 rfl (lv_at hl 0 rfl) ?_
  refine lv_iconst (v := 1) hx hb dL_law_204 (by decide) ?_
  refine lv_iadd hx hb dL_law_205 ?_
  refine ow_top 1 (by decide +kernel) ?_
  refine va_sld hx hb hX hbl hbA hS (in_lit (by decide +kernel)) dL_law_206 ?_
  refine ow_top (xs 1) rfl ?_
  refine lv_aload_n hx hb dL_law_207 rfl (lv_at hl 3 rfl) ?_
  refine lv_iload_n hx hb dL_law_208 rfl (lv_at hl 0 rfl) ?_
  refine lv_iconst (v := 2) hx hb dL_law_209 (by decide) ?_
  refine lv_iadd hx hb dL_law_210 ?_
  refine ow_top 2 (by decide +kernel) ?_
  refine va_sld hx hb hX hbl hbA hS (in_lit (by decide +kernel)) dL_law_211 ?_
  refine ow_top (xs 2) rfl ?_
  refine lv_aload_n hx hb dL_law_212 rfl (lv_at hl 3 rfl) ?_
  refine lv_iload_n hx hb dL_law_213 rfl (lv_at hl 0 rfl) ?_
  refine lv_iconst (v := 3) hx hb dL_law_214 (by decide) ?_
  refine lv_iadd hx hb dL_law_215 ?_
  refine ow_top 3 (by decide +kernel) ?_
  refine va_sld hx hb hX hbl hbA hS (in_lit (by decide +kernel)) dL_law_216 ?_
  refine ow_top (xs 3) rfl ?_
  refine lv_aload_n hx hb dL_law_217 rfl (lv_at hl 3 rfl) ?_
  refine lv_iload_n hx hb dL_law_218 rfl (lv_at hl 0 rfl) ?_
  refine lv_iconst (v := 4) hx hb dL_law_219 (by decide) ?_
  refine lv_iadd hx hb dL_law_220 ?_
  refine ow_top 4 (by decide +kernel) ?_
  refine va_sld hx hb hX hbl hbA hS (in_lit (by decide +kernel)) dL_law_221 ?_
  refine ow_top (xs 4) rfl ?_
  refine lv_aload_n hx hb dL_law_222 rfl (lv_at hl 3 rfl) ?_
  refine lv_iload_n hx hb dL_law_223 rfl (lv_at hl 0 rfl) ?_
  refine lv_iconst (v := 5) hx hb dL_law_224 (by decide) ?_
  refine lv_iadd hx hb dL_law_225 ?_
  refine ow_top 5 (by decide +kernel) ?_
  refine va_sld hx hb hX hbl hbA hS (in_lit (by decide +kernel)) dL_law_226 ?_
  refine ow_top (xs 5) rfl ?_
  have hFc := fr_free hD hS hA
  refine va_calli (va_runV (As := [.int (xs 1), .int (xs 2), .int (xs 3), .int (xs 4), .int (xs 5)]) (rest := [.int r_1]) ⟨hx, hb, hml, hown, ht⟩ (m_feed l G cy _ mo k9 f (xs 1) (xs 2) (xs 3) (xs 4) (xs 5)) (cwV 5 ht (gv k_377 k_378 k_379 k_314 k_376) rfl rfl rfl (by decide +kernel) ⟨Nat.le_of_ble_eq_true rfl, Nat.le_of_ble_eq_true rfl⟩) ⟨En.blind, va_recv hK hP (ci := 12) (q0 := 0) rfl rfl, fun U hU hW => ⟨rfl, En.of hU hW hP hK hD hN⟩⟩ rfl rfl hl.1 rfl (lv_room (Nat.le_of_ble_eq_true rfl)) dL_law_227 ⟨Nat.le_of_ble_eq_true rfl, Nat.le_of_ble_eq_true rfl⟩) hS (fun q _ h => hFc q h) hFc (fun r_2 u t H locs ht9 hvm hwr_2 hB hz1 hk1 hS => ?_)
  refine lv_icmp_eq (tgt := 1211) hx hb dL_law_230 (by decide) (fun _ => ?_) (fun c9 => absurd (hwr_1.1.trans hwr_2.1.symm) c9)
  refine lv_iinc (v := 6) (lv' := [(3, .int 6), (2, .ref mo), (1, .ref x), (0, .ref b)]) hx hb dL_law_1211 hl (k := 0) rfl (by decide) (by decide) rfl (fun ls hl => ?_)
  refine lv_goto (tgt := 18) hx hb dL_law_1214 (by decide) ?_
  refine lv_iload_n hx hb dL_law_18 rfl (lv_at hl 0 rfl) ?_
  refine lv_aload_n hx hb dL_law_19 rfl (lv_at hl 3 rfl) ?_
  refine va_slen hx hb hX hbl hbA hS dL_law_20 ?_
  refine ow_top 6 (by decide +kernel) ?_
  refine lv_bipush (v := 6) hx hb dL_law_21 (by decide) ?_
  refine lv_isub hx hb dL_law_23 ?_
  refine ow_top 0 (by decide +kernel) ?_
  refine lv_icmp_gt (tgt := 1217) hx hb dL_law_24 (by decide) (fun _ => ?_) (fun c9 => absurd (by decide) c9)
  refine lv_iconst (v := 1) hx hb dL_law_1217 (by decide) ?_
  refine va_forget (fun q hq => hS.2.2 q hq) ?_
  refine W.widen (k := 600000) (n := 7302250) (Nat.le_of_ble_eq_true rfl) (Nat.le_of_ble_eq_true rfl) ?_
  exact lw_ret hx hb hr hlocks dL_law_1218
set_option maxHeartbeats 4000000 in
set_option maxRecDepth 100000 in
theorem law_1 {p : Program} {e : Env} {s : State} {m : MethodId} {below : List Frame} {meth : Method} {c : Code} (l : Launch) {b : Nat} {xs : Nat → Int32} {G : va_G} {cy : Nat → ClassId} {x mo : Nat} {h k9 : Nat → Nat} {f : Nat → Nat → Int32} (hbm : ∀ k, k < 3 → f 2 k = -1) (hx : p.tables.exec = Jvm.exec) (hb : c.code = code) (hr : meth.sig.returnType = ret) (hml : c.maxLocals = 4) (hown : s.vm.findClass RL = some m.cls) (ht : ∀ w ∈ TBg, w.before #[Value.ref b] s = true) (hX : va_X b 6 xs s s.heap) (hbl : b < s.heap.size) (hlocks : meth.locks = false) (hK : va_K G vwCl (TY cy) s) (hN : NK s) {tsw : Nat} (hSW : SWt tsw (fun q : Nat => s.heap.size ≤ q) s) {H : Heap} {locs : List Loc} (hP : va_P G vwCl (WX cy x h ++ WM cy mo k9 f) H) (hD : va_D (fun q : Nat => s.heap.size ≤ q) (WX cy x h ++ WM cy mo k9 f)) (hS : va_S (fun q : Nat => s.heap.size ≤ q) s.heap H locs) {ls : Array Slot} (hl : lv_has ls 4 [(3, .int 0), (2, .ref mo), (1, .ref x), (0, .ref b)]) : W p l e room_1 s m #[Value.ref b] below meth c H locs 1000 40000 (lw_Z below #[Value.ref b] s) (F0 m 235 ls []) := by
  have hA : ∀ q : Nat, s.heap.size ≤ q → (fun q : Nat => s.heap.size ≤ q) q := fun _ h => h
  have hbA : ¬ (fun q : Nat => s.heap.size ≤ q) b := Nat.not_le.mpr hbl
  refine lv_aload_n hx hb dL_law_235 rfl (lv_at hl 2 rfl) ?_
  refine lv_aload_n hx hb dL_law_236 rfl (lv_at hl 3 rfl) ?_
  refine lv_iload_n hx hb dL_law_237 rfl (lv_at hl 0 rfl) ?_
  refine lv_iconst (v := 1) hx hb dL_law_238 (by decide) ?_
  refine lv_iadd hx hb dL_law_239 ?_
  refine ow_top 1 (by decide +kernel) ?_
  refine va_sld hx hb hX hbl hbA hS (in_lit (by decide +kernel)) dL_law_240 ?_
  refine ow_top (xs 1) rfl ?_
  have hPD := fr_left hP hD
  have hFc := fr_leftF hD hS hA
  refine va_calli (va_runV (As := [.int (xs 1)]) (rest := []) ⟨hx, hb, hml, hown, ht⟩ (x_end l G cy _ x h (xs 1)) (cwV 1 ht (gv k_381 k_382 k_383 k_183 k_380) rfl rfl rfl (by decide +kernel) ⟨Nat.le_of_ble_eq_true rfl, Nat.le_of_ble_eq_true rfl⟩) ⟨En.blind, va_recv hK hPD.1 (ci := 11) (q0 := 0) rfl rfl, fun U hU hW => ⟨rfl, En.of hU hW hPD.1 hK hPD.2 hN⟩⟩ rfl rfl hl.1 rfl (lv_room (Nat.le_of_ble_eq_true rfl)) dL_law_241 ⟨Nat.le_of_ble_eq_true rfl, Nat.le_of_ble_eq_true rfl⟩) hS (fun q _ h => hFc q h) hFc (fun r_1 u t H locs ht9 hvm hwr_1 hB hz1 hk1 hS => ?_)
  obtain ⟨hP, hD⟩ := fr_drop hP hD hk1
  refine lv_aload_n hx hb dL_law_244 rfl (lv_at hl 1 rfl) ?_
  refine lv_aload_n hx hb dL_law_245 rfl (lv_at hl 3 rfl) ?_
  refine lv_iload_n hx hb dL_law_246 rfl (lv_at hl 0 rfl) ?_
  refine lv_iconst (v := 1) hx hb dL_law_247 (by decide) ?_
  refine lv_iadd hx hb dL_law_248 ?_
  refine ow_top 1 (by decide +kernel) ?_
  refine va_sld hx hb hX hbl hbA hS (in_lit (by decide +kernel)) dL_law_249 ?_
  refine ow_top (xs 1) rfl ?_
  have hFc := fr_free hD hS hA
  refine va_calli (va_runV (As := [.int (xs 1)]) (rest := [.int r_1]) ⟨hx, hb, hml, hown, ht⟩ (m_end l G cy _ mo k9 f (xs 1)) (cwV 1 ht (gv k_385 k_386 k_387 k_314 k_384) rfl rfl rfl (by decide +kernel) ⟨Nat.le_of_ble_eq_true rfl, Nat.le_of_ble_eq_true rfl⟩) ⟨En.blind, va_recv hK hP (ci := 12) (q0 := 0) rfl rfl, fun U hU hW => ⟨rfl, En.of hU hW hP hK hD hN⟩⟩ rfl rfl hl.1 rfl (lv_room (Nat.le_of_ble_eq_true rfl)) dL_law_250 ⟨Nat.le_of_ble_eq_true rfl, Nat.le_of_ble_eq_true rfl⟩) hS (fun q _ h => hFc q h) hFc (fun r_2 u t H locs ht9 hvm hwr_2 hB hz1 hk1 hS => ?_)
  refine lv_icmp_eq (tgt := 1211) hx hb dL_law_253 (by decide) (fun _ => ?_) (fun c9 => absurd (hwr_1.1.trans hwr_2.1.symm) c9)
  refine lv_iinc (v := 6) (lv' := [(3, .int 6), (2, .ref mo), (1, .ref x), (0, .ref b)]) hx hb dL_law_1211 hl (k := 0) rfl (by decide) (by decide) rfl (fun ls hl => ?_)
  refine lv_goto (tgt := 18) hx hb dL_law_1214 (by decide) ?_
  refine lv_iload_n hx hb dL_law_18 rfl (lv_at hl 0 rfl) ?_
  refine lv_aload_n hx hb dL_law_19 rfl (lv_at hl 3 rfl) ?_
  refine va_slen hx hb hX hbl hbA hS dL_law_20 ?_
  refine ow_top 6 (by decide +kernel) ?_
  refine lv_bipush (v := 6) hx hb dL_law_21 (by decide) ?_
  refine lv_isub hx hb dL_law_23 ?_
  refine ow_top 0 (by decide +kernel) ?_
  refine lv_icmp_gt (tgt := 1217) hx hb dL_law_24 (by decide) (fun _ => ?_) (fun c9 => absurd (by decide) c9)
  refine lv_iconst (v := 1) hx hb dL_law_1217 (by decide) ?_
  refine va_forget (fun q hq => hS.2.2 q hq) ?_
  refine W.widen (k := 600000) (n := 7302250) (Nat.le_of_ble_eq_true rfl) (Nat.le_of_ble_eq_true rfl) ?_
  exact lw_ret hx hb hr hlocks dL_law_1218
set_option maxHeartbeats 4000000 in
set_option maxRecDepth 100000 in
theorem law_2 {p : Program} {e : Env} {s : State} {m : MethodId} {below : List Frame} {meth : Method} {c : Code} (l : Launch) {b : Nat} {xs : Nat → Int32} {G : va_G} {cy : Nat → ClassId} {x mo : Nat} {h k9 : Nat → Nat} {f : Nat → Nat → Int32} (hbm : ∀ k, k < 3 → f 2 k = -1) (hx : p.tables.exec = Jvm.exec) (hb : c.code = code) (hr : meth.sig.returnType = ret) (hml : c.maxLocals = 4) (hown : s.vm.findClass RL = some m.cls) (ht : ∀ w ∈ TBg, w.before #[Value.ref b] s = true) (hX : va_X b 6 xs s s.heap) (hbl : b < s.heap.size) (hlocks : meth.locks = false) (hK : va_K G vwCl (TY cy) s) (hN : NK s) {tsw : Nat} (hSW : SWt tsw (fun q : Nat => s.heap.size ≤ q) s) {H : Heap} {locs : List Loc} (hP : va_P G vwCl (WX cy x h ++ WM cy mo k9 f) H) (hD : va_D (fun q : Nat => s.heap.size ≤ q) (WX cy x h ++ WM cy mo k9 f)) (hS : va_S (fun q : Nat => s.heap.size ≤ q) s.heap H locs) {ls : Array Slot} (hl : lv_has ls 4 [(3, .int 0), (2, .ref mo), (1, .ref x), (0, .ref b)]) : W p l e room_1 s m #[Value.ref b] below meth c H locs 1000 40000 (lw_Z below #[Value.ref b] s) (F0 m 258 ls []) := by
  have hA : ∀ q : Nat, s.heap.size ≤ q → (fun q : Nat => s.heap.size ≤ q) q := fun _ h => h
  have hbA : ¬ (fun q : Nat => s.heap.size ≤ q) b := Nat.not_le.mpr hbl
  refine lv_aload_n hx hb dL_law_258 rfl (lv_at hl 2 rfl) ?_
  have hPD := fr_left hP hD
  have hFc := fr_leftF hD hS hA
  refine va_calli (va_runV (As := []) (rest := []) ⟨hx, hb, hml, hown, ht⟩ (x_town l G cy _ tsw x h) (cwV 0 ht (gv k_389 k_390 k_391 k_183 k_388) rfl rfl rfl (by decide +kernel) ⟨Nat.le_of_ble_eq_true rfl, Nat.le_of_ble_eq_true rfl⟩) ⟨EnS.blind, va_recv hK hPD.1 (ci := 11) (q0 := 0) rfl rfl, fun U hU hW => ⟨rfl, En.of hU hW hPD.1 hK hPD.2 hN, SWt.of hSW hS hFc hU hW⟩⟩ rfl rfl hl.1 rfl (lv_room (Nat.le_of_ble_eq_true rfl)) dL_law_259 ⟨Nat.le_of_ble_eq_true rfl, Nat.le_of_ble_eq_true rfl⟩) hS (fun q _ h => hFc q h) hFc (fun r_1 u t H locs ht9 hvm hwr_1 hB hz1 hk1 hS => ?_)
  obtain ⟨hP, hD⟩ := fr_drop hP hD hk1
  refine lv_aload_n hx hb dL_law_262 rfl (lv_at hl 1 rfl) ?_
  have hFc := fr_free hD hS hA
  refine va_calli (va_runV (As := []) (rest := [.int r_1]) ⟨hx, hb, hml, hown, ht⟩ (m_town l G cy _ mo k9 f) (cwV 0 ht (gv k_393 k_394 k_395 k_314 k_392) rfl rfl rfl (by decide +kernel) ⟨Nat.le_of_ble_eq_true rfl, Nat.le_of_ble_eq_true rfl⟩) ⟨En.blind, va_recv hK hP (ci := 12) (q0 := 0) rfl rfl, fun U hU hW => ⟨rfl, En.of hU hW hP hK hD hN⟩⟩ rfl rfl hl.1 rfl (lv_room (Nat.le_of_ble_eq_true rfl)) dL_law_263 ⟨Nat.le_of_ble_eq_true rfl, Nat.le_of_ble_eq_true rfl⟩) hS (fun q _ h => hFc q h) hFc (fun r_2 u t H locs ht9 hvm hwr_2 hB hz1 hk1 hS => ?_)
  refine lv_icmp_eq (tgt := 1211) hx hb dL_law_266 (by decide) (fun _ => ?_) (fun c9 => absurd (hwr_1.1.trans hwr_2.1.symm) c9)
  refine lv_iinc (v := 6) (lv' := [(3, .int 6), (2, .ref mo), (1, .ref x), (0, .ref b)]) hx hb dL_law_1211 hl (k := 0) rfl (by decide) (by decide) rfl (fun ls hl => ?_)
  refine lv_goto (tgt := 18) hx hb dL_law_1214 (by decide) ?_
  refine lv_iload_n hx hb dL_law_18 rfl (lv_at hl 0 rfl) ?_
  refine lv_aload_n hx hb dL_law_19 rfl (lv_at hl 3 rfl) ?_
  refine va_slen hx hb hX hbl hbA hS dL_law_20 ?_
  refine ow_top 6 (by decide +kernel) ?_
  refine lv_bipush (v := 6) hx hb dL_law_21 (by decide) ?_
  refine lv_isub hx hb dL_law_23 ?_
  refine ow_top 0 (by decide +kernel) ?_
  refine lv_icmp_gt (tgt := 1217) hx hb dL_law_24 (by decide) (fun _ => ?_) (fun c9 => absurd (by decide) c9)
  refine lv_iconst (v := 1) hx hb dL_law_1217 (by decide) ?_
  refine va_forget (fun q hq => hS.2.2 q hq) ?_
  refine W.widen (k := 600000) (n := 7302250) (Nat.le_of_ble_eq_true rfl) (Nat.le_of_ble_eq_true rfl) ?_
  exact lw_ret hx hb hr hlocks dL_law_1218
set_option maxHeartbeats 4000000 in
set_option maxRecDepth 100000 in
theorem law_3 {p : Program} {e : Env} {s : State} {m : MethodId} {below : List Frame} {meth : Method} {c : Code} (l : Launch) {b : Nat} {xs : Nat → Int32} {G : va_G} {cy : Nat → ClassId} {x mo : Nat} {h k9 : Nat → Nat} {f : Nat → Nat → Int32} (hbm : ∀ k, k < 3 → f 2 k = -1) (hx : p.tables.exec = Jvm.exec) (hb : c.code = code) (hr : meth.sig.returnType = ret) (hml : c.maxLocals = 4) (hown : s.vm.findClass RL = some m.cls) (ht : ∀ w ∈ TBg, w.before #[Value.ref b] s = true) (hX : va_X b 6 xs s s.heap) (hbl : b < s.heap.size) (hlocks : meth.locks = false) (hK : va_K G vwCl (TY cy) s) (hN : NK s) {tsw : Nat} (hSW : SWt tsw (fun q : Nat => s.heap.size ≤ q) s) {H : Heap} {locs : List Loc} (hP : va_P G vwCl (WX cy x h ++ WM cy mo k9 f) H) (hD : va_D (fun q : Nat => s.heap.size ≤ q) (WX cy x h ++ WM cy mo k9 f)) (hS : va_S (fun q : Nat => s.heap.size ≤ q) s.heap H locs) {ls : Array Slot} (hl : lv_has ls 4 [(3, .int 0), (2, .ref mo), (1, .ref x), (0, .ref b)]) : W p l e room_1 s m #[Value.ref b] below meth c H locs 1000 40000 (lw_Z below #[Value.ref b] s) (F0 m 271 ls []) := by
  have hA : ∀ q : Nat, s.heap.size ≤ q → (fun q : Nat => s.heap.size ≤ q) q := fun _ h => h
  have hbA : ¬ (fun q : Nat => s.heap.size ≤ q) b := Nat.not_le.mpr hbl
  refine lv_aload_n hx hb dL_law_271 rfl (lv_at hl 2 rfl) ?_
  refine lv_aload_n hx hb dL_law_272 rfl (lv_at hl 3 rfl) ?_
  refine lv_iload_n hx hb dL_law_273 rfl (lv_at hl 0 rfl) ?_
  refine lv_iconst (v := 1) hx hb dL_law_274 (by decide) ?_
  refine lv_iadd hx hb dL_law_275 ?_
  refine ow_top 1 (by decide +kernel) ?_
  refine va_sld hx hb hX hbl hbA hS (in_lit (by decide +kernel)) dL_law_276 ?_
  refine ow_top (xs 1) rfl ?_
  have hPD := fr_left hP hD
  have hFc := fr_leftF hD hS hA
  refine va_calli (va_runV (As := [.int (xs 1)]) (rest := []) ⟨hx, hb, hml, hown, ht⟩ (x_fault l G cy _ x h (xs 1)) (cwV 1 ht (gv k_397 k_398 k_399 k_183 k_396) rfl rfl rfl (by decide +kernel) ⟨Nat.le_of_ble_eq_true rfl, Nat.le_of_ble_eq_true rfl⟩) ⟨En.blind, va_recv hK hPD.1 (ci := 11) (q0 := 0) rfl rfl, fun U hU hW => ⟨rfl, En.of hU hW hPD.1 hK hPD.2 hN⟩⟩ rfl rfl hl.1 rfl (lv_room (Nat.le_of_ble_eq_true rfl)) dL_law_277 ⟨Nat.le_of_ble_eq_true rfl, Nat.le_of_ble_eq_true rfl⟩) hS (fun q _ h => hFc q h) hFc (fun r_1 u t H locs ht9 hvm hwr_1 hB hz1 hk1 hS => ?_)
  obtain ⟨hP, hD⟩ := fr_drop hP hD hk1
  refine lv_aload_n hx hb dL_law_280 rfl (lv_at hl 1 rfl) ?_
  refine lv_aload_n hx hb dL_law_281 rfl (lv_at hl 3 rfl) ?_
  refine lv_iload_n hx hb dL_law_282 rfl (lv_at hl 0 rfl) ?_
  refine lv_iconst (v := 1) hx hb dL_law_283 (by decide) ?_
  refine lv_iadd hx hb dL_law_284 ?_
  refine ow_top 1 (by decide +kernel) ?_
  refine va_sld hx hb hX hbl hbA hS (in_lit (by decide +kernel)) dL_law_285 ?_
  refine ow_top (xs 1) rfl ?_
  have hFc := fr_free hD hS hA
  refine va_calli (va_runV (As := [.int (xs 1)]) (rest := [.int r_1]) ⟨hx, hb, hml, hown, ht⟩ (m_fault l G cy _ mo k9 f (xs 1)) (cwV 1 ht (gv k_401 k_402 k_403 k_314 k_400) rfl rfl rfl (by decide +kernel) ⟨Nat.le_of_ble_eq_true rfl, Nat.le_of_ble_eq_true rfl⟩) ⟨En.blind, va_recv hK hP (ci := 12) (q0 := 0) rfl rfl, fun U hU hW => ⟨rfl, En.of hU hW hP hK hD hN⟩⟩ rfl rfl hl.1 rfl (lv_room (Nat.le_of_ble_eq_true rfl)) dL_law_286 ⟨Nat.le_of_ble_eq_true rfl, Nat.le_of_ble_eq_true rfl⟩) hS (fun q _ h => hFc q h) hFc (fun r_2 u t H locs ht9 hvm hwr_2 hB hz1 hk1 hS => ?_)
  refine lv_icmp_eq (tgt := 1211) hx hb dL_law_289 (by decide) (fun _ => ?_) (fun c9 => absurd (hwr_1.1.trans hwr_2.1.symm) c9)
  refine lv_iinc (v := 6) (lv' := [(3, .int 6), (2, .ref mo), (1, .ref x), (0, .ref b)]) hx hb dL_law_1211 hl (k := 0) rfl (by decide) (by decide) rfl (fun ls hl => ?_)
  refine lv_goto (tgt := 18) hx hb dL_law_1214 (by decide) ?_
  refine lv_iload_n hx hb dL_law_18 rfl (lv_at hl 0 rfl) ?_
  refine lv_aload_n hx hb dL_law_19 rfl (lv_at hl 3 rfl) ?_
  refine va_slen hx hb hX hbl hbA hS dL_law_20 ?_
  refine ow_top 6 (by decide +kernel) ?_
  refine lv_bipush (v := 6) hx hb dL_law_21 (by decide) ?_
  refine lv_isub hx hb dL_law_23 ?_
  refine ow_top 0 (by decide +kernel) ?_
  refine lv_icmp_gt (tgt := 1217) hx hb dL_law_24 (by decide) (fun _ => ?_) (fun c9 => absurd (by decide) c9)
  refine lv_iconst (v := 1) hx hb dL_law_1217 (by decide) ?_
  refine va_forget (fun q hq => hS.2.2 q hq) ?_
  refine W.widen (k := 600000) (n := 7302250) (Nat.le_of_ble_eq_true rfl) (Nat.le_of_ble_eq_true rfl) ?_
  exact lw_ret hx hb hr hlocks dL_law_1218
set_option maxHeartbeats 4000000 in
set_option maxRecDepth 100000 in
theorem law_4 {p : Program} {e : Env} {s : State} {m : MethodId} {below : List Frame} {meth : Method} {c : Code} (l : Launch) {b : Nat} {xs : Nat → Int32} {G : va_G} {cy : Nat → ClassId} {x mo : Nat} {h k9 : Nat → Nat} {f : Nat → Nat → Int32} (hbm : ∀ k, k < 3 → f 2 k = -1) (hx : p.tables.exec = Jvm.exec) (hb : c.code = code) (hr : meth.sig.returnType = ret) (hml : c.maxLocals = 4) (hown : s.vm.findClass RL = some m.cls) (ht : ∀ w ∈ TBg, w.before #[Value.ref b] s = true) (hX : va_X b 6 xs s s.heap) (hbl : b < s.heap.size) (hlocks : meth.locks = false) (hK : va_K G vwCl (TY cy) s) (hN : NK s) {tsw : Nat} (hSW : SWt tsw (fun q : Nat => s.heap.size ≤ q) s) {H : Heap} {locs : List Loc} (hP : va_P G vwCl (WX cy x h ++ WM cy mo k9 f) H) (hD : va_D (fun q : Nat => s.heap.size ≤ q) (WX cy x h ++ WM cy mo k9 f)) (hS : va_S (fun q : Nat => s.heap.size ≤ q) s.heap H locs) {ls : Array Slot} (hl : lv_has ls 4 [(3, .int 0), (2, .ref mo), (1, .ref x), (0, .ref b)]) : W p l e room_1 s m #[Value.ref b] below meth c H locs 1000 40000 (lw_Z below #[Value.ref b] s) (F0 m 294 ls []) := by
  have hA : ∀ q : Nat, s.heap.size ≤ q → (fun q : Nat => s.heap.size ≤ q) q := fun _ h => h
  have hbA : ¬ (fun q : Nat => s.heap.size ≤ q) b := Nat.not_le.mpr hbl
  refine lv_aload_n hx hb dL_law_294 rfl (lv_at hl 2 rfl) ?_
  refine lv_aload_n hx hb dL_law_295 rfl (lv_at hl 3 rfl) ?_
  refine lv_iload_n hx hb dL_law_296 rfl (lv_at hl 0 rfl) ?_
  refine lv_iconst (v := 1) hx hb dL_law_297 (by decide) ?_
  refine lv_iadd hx hb dL_law_298 ?_
  refine ow_top 1 (by decide +kernel) ?_
  refine va_sld hx hb hX hbl hbA hS (in_lit (by decide +kernel)) dL_law_299 ?_
  refine ow_top (xs 1) rfl ?_
  have hPD := fr_left hP hD
  have hFc := fr_leftF hD hS hA
  refine va_calli (va_runV (As := [.int (xs 1)]) (rest := []) ⟨hx, hb, hml, hown, ht⟩ (x_notes l G cy _ x h (xs 1)) (cwV 1 ht (gv k_405 k_406 k_407 k_183 k_404) rfl rfl rfl (by decide +kernel) ⟨Nat.le_of_ble_eq_true rfl, Nat.le_of_ble_eq_true rfl⟩) ⟨En.blind, va_recv hK hPD.1 (ci := 11) (q0 := 0) rfl rfl, fun U hU hW => ⟨rfl, En.of hU hW hPD.1 hK hPD.2 hN⟩⟩ rfl rfl hl.1 rfl (lv_room (Nat.le_of_ble_eq_true rfl)) dL_law_300 ⟨Nat.le_of_ble_eq_true rfl, Nat.le_of_ble_eq_true rfl⟩) hS (fun q _ h => hFc q h) hFc (fun r_1 u t H locs ht9 hvm hwr_1 hB hz1 hk1 hS => ?_)
  obtain ⟨hP, hD⟩ := fr_drop hP hD hk1
  refine lv_aload_n hx hb dL_law_303 rfl (lv_at hl 1 rfl) ?_
  refine lv_aload_n hx hb dL_law_304 rfl (lv_at hl 3 rfl) ?_
  refine lv_iload_n hx hb dL_law_305 rfl (lv_at hl 0 rfl) ?_
  refine lv_iconst (v := 1) hx hb dL_law_306 (by decide) ?_
  refine lv_iadd hx hb dL_law_307 ?_
  refine ow_top 1 (by decide +kernel) ?_
  refine va_sld hx hb hX hbl hbA hS (in_lit (by decide +kernel)) dL_law_308 ?_
  refine ow_top (xs 1) rfl ?_
  have hFc := fr_free hD hS hA
  refine va_calli (va_runV (As := [.int (xs 1)]) (rest := [.int r_1]) ⟨hx, hb, hml, hown, ht⟩ (m_notes l G cy _ mo k9 f (xs 1)) (cwV 1 ht (gv k_409 k_410 k_411 k_314 k_408) rfl rfl rfl (by decide +kernel) ⟨Nat.le_of_ble_eq_true rfl, Nat.le_of_ble_eq_true rfl⟩) ⟨En.blind, va_recv hK hP (ci := 12) (q0 := 0) rfl rfl, fun U hU hW => ⟨rfl, En.of hU hW hP hK hD hN⟩⟩ rfl rfl hl.1 rfl (lv_room (Nat.le_of_ble_eq_true rfl)) dL_law_309 ⟨Nat.le_of_ble_eq_true rfl, Nat.le_of_ble_eq_true rfl⟩) hS (fun q _ h => hFc q h) hFc (fun r_2 u t H locs ht9 hvm hwr_2 hB hz1 hk1 hS => ?_)
  refine lv_icmp_eq (tgt := 1211) hx hb dL_law_312 (by decide) (fun _ => ?_) (fun c9 => absurd (hwr_1.1.trans hwr_2.1.symm) c9)
  refine lv_iinc (v := 6) (lv' := [(3, .int 6), (2, .ref mo), (1, .ref x), (0, .ref b)]) hx hb dL_law_1211 hl (k := 0) rfl (by decide) (by decide) rfl (fun ls hl => ?_)
  refine lv_goto (tgt := 18) hx hb dL_law_1214 (by decide) ?_
  refine lv_iload_n hx hb dL_law_18 rfl (lv_at hl 0 rfl) ?_
  refine lv_aload_n hx hb dL_law_19 rfl (lv_at hl 3 rfl) ?_
  refine va_slen hx hb hX hbl hbA hS dL_law_20 ?_
  refine ow_top 6 (by decide +kernel) ?_
  refine lv_bipush (v := 6) hx hb dL_law_21 (by decide) ?_
  refine lv_isub hx hb dL_law_23 ?_
  refine ow_top 0 (by decide +kernel) ?_
  refine lv_icmp_gt (tgt := 1217) hx hb dL_law_24 (by decide) (fun _ => ?_) (fun c9 => absurd (by decide) c9)
  refine lv_iconst (v := 1) hx hb dL_law_1217 (by decide) ?_
  refine va_forget (fun q hq => hS.2.2 q hq) ?_
  refine W.widen (k := 600000) (n := 7302250) (Nat.le_of_ble_eq_true rfl) (Nat.le_of_ble_eq_true rfl) ?_
  exact lw_ret hx hb hr hlocks dL_law_1218
set_option maxHeartbeats 4000000 in
set_option maxRecDepth 100000 in
theorem law_5 {p : Program} {e : Env} {s : State} {m : MethodId} {below : List Frame} {meth : Method} {c : Code} (l : Launch) {b : Nat} {xs : Nat → Int32} {G : va_G} {cy : Nat → ClassId} {x mo : Nat} {h k9 : Nat → Nat} {f : Nat → Nat → Int32} (hbm : ∀ k, k < 3 → f 2 k = -1) (hx : p.tables.exec = Jvm.exec) (hb : c.code = code) (hr : meth.sig.returnType = ret) (hml : c.maxLocals = 4) (hown : s.vm.findClass RL = some m.cls) (ht : ∀ w ∈ TBg, w.before #[Value.ref b] s = true) (hX : va_X b 6 xs s s.heap) (hbl : b < s.heap.size) (hlocks : meth.locks = false) (hK : va_K G vwCl (TY cy) s) (hN : NK s) {tsw : Nat} (hSW : SWt tsw (fun q : Nat => s.heap.size ≤ q) s) {H : Heap} {locs : List Loc} (hP : va_P G vwCl (WX cy x h ++ WM cy mo k9 f) H) (hD : va_D (fun q : Nat => s.heap.size ≤ q) (WX cy x h ++ WM cy mo k9 f)) (hS : va_S (fun q : Nat => s.heap.size ≤ q) s.heap H locs) {ls : Array Slot} (hl : lv_has ls 4 [(3, .int 0), (2, .ref mo), (1, .ref x), (0, .ref b)]) : W p l e room_1 s m #[Value.ref b] below meth c H locs 1000 40000 (lw_Z below #[Value.ref b] s) (F0 m 317 ls []) := by
  have hA : ∀ q : Nat, s.heap.size ≤ q → (fun q : Nat => s.heap.size ≤ q) q := fun _ h => h
  have hbA : ¬ (fun q : Nat => s.heap.size ≤ q) b := Nat.not_le.mpr hbl
  refine lv_aload_n hx hb dL_law_317 rfl (lv_at hl 2 rfl) ?_
  refine lv_aload_n hx hb dL_law_318 rfl (lv_at hl 3 rfl) ?_
  refine lv_iload_n hx hb dL_law_319 rfl (lv_at hl 0 rfl) ?_
  refine lv_iconst (v := 1) hx hb dL_law_320 (by decide) ?_
  refine lv_iadd hx hb dL_law_321 ?_
  refine ow_top 1 (by decide +kernel) ?_
  refine va_sld hx hb hX hbl hbA hS (in_lit (by decide +kernel)) dL_law_322 ?_
  refine ow_top (xs 1) rfl ?_
  refine lv_aload_n hx hb dL_law_323 rfl (lv_at hl 3 rfl) ?_
  refine lv_iload_n hx hb dL_law_324 rfl (lv_at hl 0 rfl) ?_
  refine lv_iconst (v := 2) hx hb dL_law_325 (by decide) ?_
  refine lv_iadd hx hb dL_law_326 ?_
  refine ow_top 2 (by decide +kernel) ?_
  refine va_sld hx hb hX hbl hbA hS (in_lit (by decide +kernel)) dL_law_327 ?_
  refine ow_top (xs 2) rfl ?_
  have hPD := fr_left hP hD
  have hFc := fr_leftF hD hS hA
  refine va_calli (va_runV (As := [.int (xs 1), .int (xs 2)]) (rest := []) ⟨hx, hb, hml, hown, ht⟩ (x_step l G cy _ x h (xs 1) (xs 2)) (cwV 2 ht (gv k_413 k_414 k_415 k_183 k_412) rfl rfl rfl (by decide +kernel) ⟨Nat.le_of_ble_eq_true rfl, Nat.le_of_ble_eq_true rfl⟩) ⟨En.blind, va_recv hK hPD.1 (ci := 11) (q0 := 0) rfl rfl, fun U hU hW => ⟨rfl, En.of hU hW hPD.1 hK hPD.2 hN⟩⟩ rfl rfl hl.1 rfl (lv_room (Nat.le_of_ble_eq_true rfl)) dL_law_328 ⟨Nat.le_of_ble_eq_true rfl, Nat.le_of_ble_eq_true rfl⟩) hS (fun q _ h => hFc q h) hFc (fun r_1 u t H locs ht9 hvm hwr_1 hB hz1 hk1 hS => ?_)
  obtain ⟨hP, hD⟩ := fr_drop hP hD hk1
  refine lv_aload_n hx hb dL_law_331 rfl (lv_at hl 1 rfl) ?_
  refine lv_aload_n hx hb dL_law_332 rfl (lv_at hl 3 rfl) ?_
  refine lv_iload_n hx hb dL_law_333 rfl (lv_at hl 0 rfl) ?_
  refine lv_iconst (v := 1) hx hb dL_law_334 (by decide) ?_
  refine lv_iadd hx hb dL_law_335 ?_
  refine ow_top 1 (by decide +kernel) ?_
  refine va_sld hx hb hX hbl hbA hS (in_lit (by decide +kernel)) dL_law_336 ?_
  refine ow_top (xs 1) rfl ?_
  refine lv_aload_n hx hb dL_law_337 rfl (lv_at hl 3 rfl) ?_
  refine lv_iload_n hx hb dL_law_338 rfl (lv_at hl 0 rfl) ?_
  refine lv_iconst (v := 2) hx hb dL_law_339 (by decide) ?_
  refine lv_iadd hx hb dL_law_340 ?_
  refine ow_top 2 (by decide +kernel) ?_
  refine va_sld hx hb hX hbl hbA hS (in_lit (by decide +kernel)) dL_law_341 ?_
  refine ow_top (xs 2) rfl ?_
  have hFc := fr_free hD hS hA
  refine va_calli (va_runV (As := [.int (xs 1), .int (xs 2)]) (rest := [.int r_1]) ⟨hx, hb, hml, hown, ht⟩ (m_step l G cy _ mo k9 f (xs 1) (xs 2)) (cwV 2 ht (gv k_417 k_418 k_419 k_314 k_416) rfl rfl rfl (by decide +kernel) ⟨Nat.le_of_ble_eq_true rfl, Nat.le_of_ble_eq_true rfl⟩) ⟨En.blind, va_recv hK hP (ci := 12) (q0 := 0) rfl rfl, fun U hU hW => ⟨rfl, En.of hU hW hP hK hD hN⟩⟩ rfl rfl hl.1 rfl (lv_room (Nat.le_of_ble_eq_true rfl)) dL_law_342 ⟨Nat.le_of_ble_eq_true rfl, Nat.le_of_ble_eq_true rfl⟩) hS (fun q _ h => hFc q h) hFc (fun r_2 u t H locs ht9 hvm hwr_2 hB hz1 hk1 hS => ?_)
  refine lv_icmp_eq (tgt := 1211) hx hb dL_law_345 (by decide) (fun _ => ?_) (fun c9 => absurd (hwr_1.1.trans hwr_2.1.symm) c9)
  refine lv_iinc (v := 6) (lv' := [(3, .int 6), (2, .ref mo), (1, .ref x), (0, .ref b)]) hx hb dL_law_1211 hl (k := 0) rfl (by decide) (by decide) rfl (fun ls hl => ?_)
  refine lv_goto (tgt := 18) hx hb dL_law_1214 (by decide) ?_
  refine lv_iload_n hx hb dL_law_18 rfl (lv_at hl 0 rfl) ?_
  refine lv_aload_n hx hb dL_law_19 rfl (lv_at hl 3 rfl) ?_
  refine va_slen hx hb hX hbl hbA hS dL_law_20 ?_
  refine ow_top 6 (by decide +kernel) ?_
  refine lv_bipush (v := 6) hx hb dL_law_21 (by decide) ?_
  refine lv_isub hx hb dL_law_23 ?_
  refine ow_top 0 (by decide +kernel) ?_
  refine lv_icmp_gt (tgt := 1217) hx hb dL_law_24 (by decide) (fun _ => ?_) (fun c9 => absurd (by decide) c9)
  refine lv_iconst (v := 1) hx hb dL_law_1217 (by decide) ?_
  refine va_forget (fun q hq => hS.2.2 q hq) ?_
  refine W.widen (k := 600000) (n := 7302250) (Nat.le_of_ble_eq_true rfl) (Nat.le_of_ble_eq_true rfl) ?_
  exact lw_ret hx hb hr hlocks dL_law_1218
set_option maxHeartbeats 4000000 in
set_option maxRecDepth 100000 in
theorem law_6 {p : Program} {e : Env} {s : State} {m : MethodId} {below : List Frame} {meth : Method} {c : Code} (l : Launch) {b : Nat} {xs : Nat → Int32} {G : va_G} {cy : Nat → ClassId} {x mo : Nat} {h k9 : Nat → Nat} {f : Nat → Nat → Int32} (hbm : ∀ k, k < 3 → f 2 k = -1) (hx : p.tables.exec = Jvm.exec) (hb : c.code = code) (hr : meth.sig.returnType = ret) (hml : c.maxLocals = 4) (hown : s.vm.findClass RL = some m.cls) (ht : ∀ w ∈ TBg, w.before #[Value.ref b] s = true) (hX : va_X b 6 xs s s.heap) (hbl : b < s.heap.size) (hlocks : meth.locks = false) (hK : va_K G vwCl (TY cy) s) (hN : NK s) {tsw : Nat} (hSW : SWt tsw (fun q : Nat => s.heap.size ≤ q) s) {H : Heap} {locs : List Loc} (hP : va_P G vwCl (WX cy x h ++ WM cy mo k9 f) H) (hD : va_D (fun q : Nat => s.heap.size ≤ q) (WX cy x h ++ WM cy mo k9 f)) (hS : va_S (fun q : Nat => s.heap.size ≤ q) s.heap H locs) {ls : Array Slot} (hl : lv_has ls 4 [(3, .int 0), (2, .ref mo), (1, .ref x), (0, .ref b)]) : W p l e room_1 s m #[Value.ref b] below meth c H locs 1000 40000 (lw_Z below #[Value.ref b] s) (F0 m 350 ls []) := by
  have hA : ∀ q : Nat, s.heap.size ≤ q → (fun q : Nat => s.heap.size ≤ q) q := fun _ h => h
  have hbA : ¬ (fun q : Nat => s.heap.size ≤ q) b := Nat.not_le.mpr hbl
  refine lv_aload_n hx hb dL_law_350 rfl (lv_at hl 2 rfl) ?_
  refine lv_aload_n hx hb dL_law_351 rfl (lv_at hl 3 rfl) ?_
  refine lv_iload_n hx hb dL_law_352 rfl (lv_at hl 0 rfl) ?_
  refine lv_iconst (v := 1) hx hb dL_law_353 (by decide) ?_
  refine lv_iadd hx hb dL_law_354 ?_
  refine ow_top 1 (by decide +kernel) ?_
  refine va_sld hx hb hX hbl hbA hS (in_lit (by decide +kernel)) dL_law_355 ?_
  refine ow_top (xs 1) rfl ?_
  refine lv_aload_n hx hb dL_law_356 rfl (lv_at hl 3 rfl) ?_
  refine lv_iload_n hx hb dL_law_357 rfl (lv_at hl 0 rfl) ?_
  refine lv_iconst (v := 2) hx hb dL_law_358 (by decide) ?_
  refine lv_iadd hx hb dL_law_359 ?_
  refine ow_top 2 (by decide +kernel) ?_
  refine va_sld hx hb hX hbl hbA hS (in_lit (by decide +kernel)) dL_law_360 ?_
  refine ow_top (xs 2) rfl ?_
  refine lv_aload_n hx hb dL_law_361 rfl (lv_at hl 3 rfl) ?_
  refine lv_iload_n hx hb dL_law_362 rfl (lv_at hl 0 rfl) ?_
  refine lv_iconst (v := 3) hx hb dL_law_363 (by decide) ?_
  refine lv_iadd hx hb dL_law_364 ?_
  refine ow_top 3 (by decide +kernel) ?_
  refine va_sld hx hb hX hbl hbA hS (in_lit (by decide +kernel)) dL_law_365 ?_
  refine ow_top (xs 3) rfl ?_
  have hPD := fr_left hP hD
  have hFc := fr_leftF hD hS hA
  refine va_calli (va_runV (As := [.int (xs 1), .int (xs 2), .int (xs 3)]) (rest := []) ⟨hx, hb, hml, hown, ht⟩ (x_off l G cy _ x h (xs 1) (xs 2) (xs 3)) (cwV 3 ht (gv k_421 k_422 k_423 k_183 k_420) rfl rfl rfl (by decide +kernel) ⟨Nat.le_of_ble_eq_true rfl, Nat.le_of_ble_eq_true rfl⟩) ⟨En.blind, va_recv hK hPD.1 (ci := 11) (q0 := 0) rfl rfl, fun U hU hW => ⟨rfl, En.of hU hW hPD.1 hK hPD.2 hN⟩⟩ rfl rfl hl.1 rfl (lv_room (Nat.le_of_ble_eq_true rfl)) dL_law_366 ⟨Nat.le_of_ble_eq_true rfl, Nat.le_of_ble_eq_true rfl⟩) hS (fun q _ h => hFc q h) hFc (fun r_1 u t H locs ht9 hvm hwr_1 hB hz1 hk1 hS => ?_)
  obtain ⟨hP, hD⟩ := fr_drop hP hD hk1
  refine lv_aload_n hx hb dL_law_369 rfl (lv_at hl 1 rfl) ?_
  refine lv_aload_n hx hb dL_law_370 rfl (lv_at hl 3 rfl) ?_
  refine lv_iload_n hx hb dL_law_371 rfl (lv_at hl 0 rfl) ?_
  refine lv_iconst (v := 1) hx hb dL_law_372 (by decide) ?_
  refine lv_iadd hx hb dL_law_373 ?_
  refine ow_top 1 (by decide +kernel) ?_
  refine va_sld hx hb hX hbl hbA hS (in_lit (by decide +kernel)) dL_law_374 ?_
  refine ow_top (xs 1) rfl ?_
  refine lv_aload_n hx hb dL_law_375 rfl (lv_at hl 3 rfl) ?_
  refine lv_iload_n hx hb dL_law_376 rfl (lv_at hl 0 rfl) ?_
  refine lv_iconst (v := 2) hx hb dL_law_377 (by decide) ?_
  refine lv_iadd hx hb dL_law_378 ?_
  refine ow_top 2 (by decide +kernel) ?_
  refine va_sld hx hb hX hbl hbA hS (in_lit (by decide +kernel)) dL_law_379 ?_
  refine ow_top (xs 2) rfl ?_
  refine lv_aload_n hx hb dL_law_380 rfl (lv_at hl 3 rfl) ?_
  refine lv_iload_n hx hb dL_law_381 rfl (lv_at hl 0 rfl) ?_
  refine lv_iconst (v := 3) hx hb dL_law_382 (by decide) ?_
  refine lv_iadd hx hb dL_law_383 ?_
  refine ow_top 3 (by decide +kernel) ?_
  refine va_sld hx hb hX hbl hbA hS (in_lit (by decide +kernel)) dL_law_384 ?_
  refine ow_top (xs 3) rfl ?_
  have hFc := fr_free hD hS hA
  refine va_calli (va_runV (As := [.int (xs 1), .int (xs 2), .int (xs 3)]) (rest := [.int r_1]) ⟨hx, hb, hml, hown, ht⟩ (m_off l G cy _ mo k9 f (xs 1) (xs 2) (xs 3)) (cwV 3 ht (gv k_425 k_426 k_427 k_314 k_424) rfl rfl rfl (by decide +kernel) ⟨Nat.le_of_ble_eq_true rfl, Nat.le_of_ble_eq_true rfl⟩) ⟨En.blind, va_recv hK hP (ci := 12) (q0 := 0) rfl rfl, fun U hU hW => ⟨rfl, En.of hU hW hP hK hD hN⟩⟩ rfl rfl hl.1 rfl (lv_room (Nat.le_of_ble_eq_true rfl)) dL_law_385 ⟨Nat.le_of_ble_eq_true rfl, Nat.le_of_ble_eq_true rfl⟩) hS (fun q _ h => hFc q h) hFc (fun r_2 u t H locs ht9 hvm hwr_2 hB hz1 hk1 hS => ?_)
  refine lv_icmp_eq (tgt := 1211) hx hb dL_law_388 (by decide) (fun _ => ?_) (fun c9 => absurd (hwr_1.1.trans hwr_2.1.symm) c9)
  refine lv_iinc (v := 6) (lv' := [(3, .int 6), (2, .ref mo), (1, .ref x), (0, .ref b)]) hx hb dL_law_1211 hl (k := 0) rfl (by decide) (by decide) rfl (fun ls hl => ?_)
  refine lv_goto (tgt := 18) hx hb dL_law_1214 (by decide) ?_
  refine lv_iload_n hx hb dL_law_18 rfl (lv_at hl 0 rfl) ?_
  refine lv_aload_n hx hb dL_law_19 rfl (lv_at hl 3 rfl) ?_
  refine va_slen hx hb hX hbl hbA hS dL_law_20 ?_
  refine ow_top 6 (by decide +kernel) ?_
  refine lv_bipush (v := 6) hx hb dL_law_21 (by decide) ?_
  refine lv_isub hx hb dL_law_23 ?_
  refine ow_top 0 (by decide +kernel) ?_
  refine lv_icmp_gt (tgt := 1217) hx hb dL_law_24 (by decide) (fun _ => ?_) (fun c9 => absurd (by decide) c9)
  refine lv_iconst (v := 1) hx hb dL_law_1217 (by decide) ?_
  refine va_forget (fun q hq => hS.2.2 q hq) ?_
  refine W.widen (k := 600000) (n := 7302250) (Nat.le_of_ble_eq_true rfl) (Nat.le_of_ble_eq_true rfl) ?_
  exact lw_ret hx hb hr hlocks dL_law_1218
set_option maxHeartbeats 4000000 in
set_option maxRecDepth 100000 in
theorem law_7 {p : Program} {e : Env} {s : State} {m : MethodId} {below : List Frame} {meth : Method} {c : Code} (l : Launch) {b : Nat} {xs : Nat → Int32} {G : va_G} {cy : Nat → ClassId} {x mo : Nat} {h k9 : Nat → Nat} {f : Nat → Nat → Int32} (hbm : ∀ k, k < 3 → f 2 k = -1) (hx : p.tables.exec = Jvm.exec) (hb : c.code = code) (hr : meth.sig.returnType = ret) (hml : c.maxLocals = 4) (hown : s.vm.findClass RL = some m.cls) (ht : ∀ w ∈ TBg, w.before #[Value.ref b] s = true) (hX : va_X b 6 xs s s.heap) (hbl : b < s.heap.size) (hlocks : meth.locks = false) (hK : va_K G vwCl (TY cy) s) (hN : NK s) {tsw : Nat} (hSW : SWt tsw (fun q : Nat => s.heap.size ≤ q) s) {H : Heap} {locs : List Loc} (hP : va_P G vwCl (WX cy x h ++ WM cy mo k9 f) H) (hD : va_D (fun q : Nat => s.heap.size ≤ q) (WX cy x h ++ WM cy mo k9 f)) (hS : va_S (fun q : Nat => s.heap.size ≤ q) s.heap H locs) {ls : Array Slot} (hl : lv_has ls 4 [(3, .int 0), (2, .ref mo), (1, .ref x), (0, .ref b)]) : W p l e room_1 s m #[Value.ref b] below meth c H locs 1000 40000 (lw_Z below #[Value.ref b] s) (F0 m 393 ls []) := by
  have hA : ∀ q : Nat, s.heap.size ≤ q → (fun q : Nat => s.heap.size ≤ q) q := fun _ h => h
  have hbA : ¬ (fun q : Nat => s.heap.size ≤ q) b := Nat.not_le.mpr hbl
  refine lv_aload_n hx hb dL_law_393 rfl (lv_at hl 2 rfl) ?_
  refine lv_aload_n hx hb dL_law_394 rfl (lv_at hl 3 rfl) ?_
  refine lv_iload_n hx hb dL_law_395 rfl (lv_at hl 0 rfl) ?_
  refine lv_iconst (v := 1) hx hb dL_law_396 (by decide) ?_
  refine lv_iadd hx hb dL_law_397 ?_
  refine ow_top 1 (by decide +kernel) ?_
  refine va_sld hx hb hX hbl hbA hS (in_lit (by decide +kernel)) dL_law_398 ?_
  refine ow_top (xs 1) rfl ?_
  refine lv_aload_n hx hb dL_law_399 rfl (lv_at hl 3 rfl) ?_
  refine lv_iload_n hx hb dL_law_400 rfl (lv_at hl 0 rfl) ?_
  refine lv_iconst (v := 2) hx hb dL_law_401 (by decide) ?_
  refine lv_iadd hx hb dL_law_402 ?_
  refine ow_top 2 (by decide +kernel) ?_
  refine va_sld hx hb hX hbl hbA hS (in_lit (by decide +kernel)) dL_law_403 ?_
  refine ow_top (xs 2) rfl ?_
  refine lv_aload_n hx hb dL_law_404 rfl (lv_at hl 3 rfl) ?_
  refine lv_iload_n hx hb dL_law_405 rfl (lv_at hl 0 rfl) ?_
  refine lv_iconst (v := 3) hx hb dL_law_406 (by decide) ?_
  refine lv_iadd hx hb dL_law_407 ?_
  refine ow_top 3 (by decide +kernel) ?_
  refine va_sld hx hb hX hbl hbA hS (in_lit (by decide +kernel)) dL_law_408 ?_
  refine ow_top (xs 3) rfl ?_
  have hPD := fr_left hP hD
  have hFc := fr_leftF hD hS hA
  refine va_calli (va_runV (As := [.int (xs 1), .int (xs 2), .int (xs 3)]) (rest := []) ⟨hx, hb, hml, hown, ht⟩ (x_in l G cy _ x h (xs 1) (xs 2) (xs 3)) (cwV 3 ht (gv k_429 k_430 k_431 k_183 k_428) rfl rfl rfl (by decide +kernel) ⟨Nat.le_of_ble_eq_true rfl, Nat.le_of_ble_eq_true rfl⟩) ⟨En.blind, va_recv hK hPD.1 (ci := 11) (q0 := 0) rfl rfl, fun U hU hW => ⟨rfl, En.of hU hW hPD.1 hK hPD.2 hN⟩⟩ rfl rfl hl.1 rfl (lv_room (Nat.le_of_ble_eq_true rfl)) dL_law_409 ⟨Nat.le_of_ble_eq_true rfl, Nat.le_of_ble_eq_true rfl⟩) hS (fun q _ h => hFc q h) hFc (fun r_1 u t H locs ht9 hvm hwr_1 hB hz1 hk1 hS => ?_)
  obtain ⟨hP, hD⟩ := fr_drop hP hD hk1
  refine lv_aload_n hx hb dL_law_412 rfl (lv_at hl 1 rfl) ?_
  refine lv_aload_n hx hb dL_law_413 rfl (lv_at hl 3 rfl) ?_
  refine lv_iload_n hx hb dL_law_414 rfl (lv_at hl 0 rfl) ?_
  refine lv_iconst (v := 1) hx hb dL_law_415 (by decide) ?_
  refine lv_iadd hx hb dL_law_416 ?_
  refine ow_top 1 (by decide +kernel) ?_
  refine va_sld hx hb hX hbl hbA hS (in_lit (by decide +kernel)) dL_law_417 ?_
  refine ow_top (xs 1) rfl ?_
  refine lv_aload_n hx hb dL_law_418 rfl (lv_at hl 3 rfl) ?_
  refine lv_iload_n hx hb dL_law_419 rfl (lv_at hl 0 rfl) ?_
  refine lv_iconst (v := 2) hx hb dL_law_420 (by decide) ?_
  refine lv_iadd hx hb dL_law_421 ?_
  refine ow_top 2 (by decide +kernel) ?_
  refine va_sld hx hb hX hbl hbA hS (in_lit (by decide +kernel)) dL_law_422 ?_
  refine ow_top (xs 2) rfl ?_
  refine lv_aload_n hx hb dL_law_423 rfl (lv_at hl 3 rfl) ?_
  refine lv_iload_n hx hb dL_law_424 rfl (lv_at hl 0 rfl) ?_
  refine lv_iconst (v := 3) hx hb dL_law_425 (by decide) ?_
  refine lv_iadd hx hb dL_law_426 ?_
  refine ow_top 3 (by decide +kernel) ?_
  refine va_sld hx hb hX hbl hbA hS (in_lit (by decide +kernel)) dL_law_427 ?_
  refine ow_top (xs 3) rfl ?_
  have hFc := fr_free hD hS hA
  refine va_calli (va_runV (As := [.int (xs 1), .int (xs 2), .int (xs 3)]) (rest := [.int r_1]) ⟨hx, hb, hml, hown, ht⟩ (m_in l G cy _ mo k9 f (xs 1) (xs 2) (xs 3)) (cwV 3 ht (gv k_433 k_434 k_435 k_314 k_432) rfl rfl rfl (by decide +kernel) ⟨Nat.le_of_ble_eq_true rfl, Nat.le_of_ble_eq_true rfl⟩) ⟨En.blind, va_recv hK hP (ci := 12) (q0 := 0) rfl rfl, fun U hU hW => ⟨rfl, En.of hU hW hP hK hD hN⟩⟩ rfl rfl hl.1 rfl (lv_room (Nat.le_of_ble_eq_true rfl)) dL_law_428 ⟨Nat.le_of_ble_eq_true rfl, Nat.le_of_ble_eq_true rfl⟩) hS (fun q _ h => hFc q h) hFc (fun r_2 u t H locs ht9 hvm hwr_2 hB hz1 hk1 hS => ?_)
  refine lv_icmp_eq (tgt := 1211) hx hb dL_law_431 (by decide) (fun _ => ?_) (fun c9 => absurd (hwr_1.1.trans hwr_2.1.symm) c9)
  refine lv_iinc (v := 6) (lv' := [(3, .int 6), (2, .ref mo), (1, .ref x), (0, .ref b)]) hx hb dL_law_1211 hl (k := 0) rfl (by decide) (by decide) rfl (fun ls hl => ?_)
  refine lv_goto (tgt := 18) hx hb dL_law_1214 (by decide) ?_
  refine lv_iload_n hx hb dL_law_18 rfl (lv_at hl 0 rfl) ?_
  refine lv_aload_n hx hb dL_law_19 rfl (lv_at hl 3 rfl) ?_
  refine va_slen hx hb hX hbl hbA hS dL_law_20 ?_
  refine ow_top 6 (by decide +kernel) ?_
  refine lv_bipush (v := 6) hx hb dL_law_21 (by decide) ?_
  refine lv_isub hx hb dL_law_23 ?_
  refine ow_top 0 (by decide +kernel) ?_
  refine lv_icmp_gt (tgt := 1217) hx hb dL_law_24 (by decide) (fun _ => ?_) (fun c9 => absurd (by decide) c9)
  refine lv_iconst (v := 1) hx hb dL_law_1217 (by decide) ?_
  refine va_forget (fun q hq => hS.2.2 q hq) ?_
  refine W.widen (k := 600000) (n := 7302250) (Nat.le_of_ble_eq_true rfl) (Nat.le_of_ble_eq_true rfl) ?_
  exact lw_ret hx hb hr hlocks dL_law_1218
set_option maxHeartbeats 4000000 in
set_option maxRecDepth 100000 in
theorem law_8 {p : Program} {e : Env} {s : State} {m : MethodId} {below : List Frame} {meth : Method} {c : Code} (l : Launch) {b : Nat} {xs : Nat → Int32} {G : va_G} {cy : Nat → ClassId} {x mo : Nat} {h k9 : Nat → Nat} {f : Nat → Nat → Int32} (hbm : ∀ k, k < 3 → f 2 k = -1) (hx : p.tables.exec = Jvm.exec) (hb : c.code = code) (hr : meth.sig.returnType = ret) (hml : c.maxLocals = 4) (hown : s.vm.findClass RL = some m.cls) (ht : ∀ w ∈ TBg, w.before #[Value.ref b] s = true) (hX : va_X b 6 xs s s.heap) (hbl : b < s.heap.size) (hlocks : meth.locks = false) (hK : va_K G vwCl (TY cy) s) (hN : NK s) {tsw : Nat} (hSW : SWt tsw (fun q : Nat => s.heap.size ≤ q) s) {H : Heap} {locs : List Loc} (hP : va_P G vwCl (WX cy x h ++ WM cy mo k9 f) H) (hD : va_D (fun q : Nat => s.heap.size ≤ q) (WX cy x h ++ WM cy mo k9 f)) (hS : va_S (fun q : Nat => s.heap.size ≤ q) s.heap H locs) {ls : Array Slot} (hl : lv_has ls 4 [(3, .int 0), (2, .ref mo), (1, .ref x), (0, .ref b)]) : W p l e room_1 s m #[Value.ref b] below meth c H locs 1000 40000 (lw_Z below #[Value.ref b] s) (F0 m 436 ls []) := by
  have hA : ∀ q : Nat, s.heap.size ≤ q → (fun q : Nat => s.heap.size ≤ q) q := fun _ h => h
  have hbA : ¬ (fun q : Nat => s.heap.size ≤ q) b := Nat.not_le.mpr hbl
  refine lv_aload_n hx hb dL_law_436 rfl (lv_at hl 2 rfl) ?_
  refine lv_aload_n hx hb dL_law_437 rfl (lv_at hl 3 rfl) ?_
  refine lv_iload_n hx hb dL_law_438 rfl (lv_at hl 0 rfl) ?_
  refine lv_iconst (v := 1) hx hb dL_law_439 (by decide) ?_
  refine lv_iadd hx hb dL_law_440 ?_
  refine ow_top 1 (by decide +kernel) ?_
  refine va_sld hx hb hX hbl hbA hS (in_lit (by decide +kernel)) dL_law_441 ?_
  refine ow_top (xs 1) rfl ?_
  refine lv_aload_n hx hb dL_law_442 rfl (lv_at hl 3 rfl) ?_
  refine lv_iload_n hx hb dL_law_443 rfl (lv_at hl 0 rfl) ?_
  refine lv_iconst (v := 2) hx hb dL_law_444 (by decide) ?_
  refine lv_iadd hx hb dL_law_445 ?_
  refine ow_top 2 (by decide +kernel) ?_
  refine va_sld hx hb hX hbl hbA hS (in_lit (by decide +kernel)) dL_law_446 ?_
  refine ow_top (xs 2) rfl ?_
  refine lv_if_eq (tgt := 454) hx hb dL_law_447 (by decide) (fun c_1 => ?_) (fun c_1 => ?_)
  · skip
    refine lv_iconst (v := 0) hx hb dL_law_454 (by decide) ?_
    have hPD := fr_left hP hD
    have hFc := fr_leftF hD hS hA
    refine va_calli (va_runV (As := [.int (xs 1), .int 0]) (rest := []) ⟨hx, hb, hml, hown, ht⟩ (x_doors l G cy _ x h (xs 1) 0) (cwV 2 ht (gv k_437 k_438 k_439 k_183 k_436) rfl rfl rfl (by decide +kernel) ⟨Nat.le_of_ble_eq_true rfl, Nat.le_of_ble_eq_true rfl⟩) ⟨En.blind, va_recv hK hPD.1 (ci := 11) (q0 := 0) rfl rfl, fun U hU hW => ⟨rfl, En.of hU hW hPD.1 hK hPD.2 hN⟩⟩ rfl rfl hl.1 rfl (lv_room (Nat.le_of_ble_eq_true rfl)) dL_law_455 ⟨Nat.le_of_ble_eq_true rfl, Nat.le_of_ble_eq_true rfl⟩) hS (fun q _ h => hFc q h) hFc (fun r_2 u t H locs ht9 hvm hwr_2 hB hz1 hk1 hS => ?_)
    obtain ⟨hP, hD⟩ := fr_drop hP hD hk1
    refine lv_aload_n hx hb dL_law_458 rfl (lv_at hl 1 rfl) ?_
    refine lv_aload_n hx hb dL_law_459 rfl (lv_at hl 3 rfl) ?_
    refine lv_iload_n hx hb dL_law_460 rfl (lv_at hl 0 rfl) ?_
    refine lv_iconst (v := 1) hx hb dL_law_461 (by decide) ?_
    refine lv_iadd hx hb dL_law_462 ?_
    refine ow_top 1 (by decide +kernel) ?_
    refine va_sld hx hb hX hbl hbA hS (in_lit (by decide +kernel)) dL_law_463 ?_
    refine ow_top (xs 1) rfl ?_
    refine lv_aload_n hx hb dL_law_464 rfl (lv_at hl 3 rfl) ?_
    refine lv_iload_n hx hb dL_law_465 rfl (lv_at hl 0 rfl) ?_
    refine lv_iconst (v := 2) hx hb dL_law_466 (by decide) ?_
    refine lv_iadd hx hb dL_law_467 ?_
    refine ow_top 2 (by decide +kernel) ?_
    refine va_sld hx hb hX hbl hbA hS (in_lit (by decide +kernel)) dL_law_468 ?_
    refine ow_top (xs 2) rfl ?_
    refine lv_if_eq (tgt := 476) hx hb dL_law_469 (by decide) (fun c_3 => ?_) (fun c_3 => ?_)
    · skip
      refine lv_iconst (v := 0) hx hb dL_law_476 (by decide) ?_
      have hFc := fr_free hD hS hA
      refine va_calli (va_runV (As := [.int (xs 1), .int 0]) (rest := [.int r_2]) ⟨hx, hb, hml, hown, ht⟩ (m_doors l G cy _ mo k9 f (xs 1) 0) (cwV 2 ht (gv k_441 k_442 k_443 k_314 k_440) rfl rfl rfl (by decide +kernel) ⟨Nat.le_of_ble_eq_true rfl, Nat.le_of_ble_eq_true rfl⟩) ⟨En.blind, va_recv hK hP (ci := 12) (q0 := 0) rfl rfl, fun U hU hW => ⟨rfl, En.of hU hW hP hK hD hN⟩⟩ rfl rfl hl.1 rfl (lv_room (Nat.le_of_ble_eq_true rfl)) dL_law_477 ⟨Nat.le_of_ble_eq_true rfl, Nat.le_of_ble_eq_true rfl⟩) hS (fun q _ h => hFc q h) hFc (fun r_4 u t H locs ht9 hvm hwr_4 hB hz1 hk1 hS => ?_)
      refine lv_icmp_eq (tgt := 1211) hx hb dL_law_480 (by decide) (fun _ => ?_) (fun c9 => absurd (hwr_2.1.trans hwr_4.1.symm) c9)
      refine lv_iinc (v := 6) (lv' := [(3, .int 6), (2, .ref mo), (1, .ref x), (0, .ref b)]) hx hb dL_law_1211 hl (k := 0) rfl (by decide) (by decide) rfl (fun ls hl => ?_)
      refine lv_goto (tgt := 18) hx hb dL_law_1214 (by decide) ?_
      refine lv_iload_n hx hb dL_law_18 rfl (lv_at hl 0 rfl) ?_
      refine lv_aload_n hx hb dL_law_19 rfl (lv_at hl 3 rfl) ?_
      refine va_slen hx hb hX hbl hbA hS dL_law_20 ?_
      refine ow_top 6 (by decide +kernel) ?_
      refine lv_bipush (v := 6) hx hb dL_law_21 (by decide) ?_
      refine lv_isub hx hb dL_law_23 ?_
      refine ow_top 0 (by decide +kernel) ?_
      refine lv_icmp_gt (tgt := 1217) hx hb dL_law_24 (by decide) (fun _ => ?_) (fun c9 => absurd (by decide) c9)
      refine lv_iconst (v := 1) hx hb dL_law_1217 (by decide) ?_
      refine va_forget (fun q hq => hS.2.2 q hq) ?_
      refine W.widen (k := 600000) (n := 7302250) (Nat.le_of_ble_eq_true rfl) (Nat.le_of_ble_eq_true rfl) ?_
      exact lw_ret hx hb hr hlocks dL_law_1218
    · exfalso
      have z0 : (0 : Int32).toInt = 0 := (by decide); (try simp only [ow_lt, ow_le, ow_eq, true_and, and_true] at c_1 c_3); omega
  · skip
    refine lv_iconst (v := 1) hx hb dL_law_450 (by decide) ?_
    refine lv_goto (tgt := 455) hx hb dL_law_451 (by decide) ?_
    have hPD := fr_left hP hD
    have hFc := fr_leftF hD hS hA
    refine va_calli (va_runV (As := [.int (xs 1), .int 1]) (rest := []) ⟨hx, hb, hml, hown, ht⟩ (x_doors l G cy _ x h (xs 1) 1) (cwV 2 ht (gv k_437 k_438 k_439 k_183 k_436) rfl rfl rfl (by decide +kernel) ⟨Nat.le_of_ble_eq_true rfl, Nat.le_of_ble_eq_true rfl⟩) ⟨En.blind, va_recv hK hPD.1 (ci := 11) (q0 := 0) rfl rfl, fun U hU hW => ⟨rfl, En.of hU hW hPD.1 hK hPD.2 hN⟩⟩ rfl rfl hl.1 rfl (lv_room (Nat.le_of_ble_eq_true rfl)) dL_law_455 ⟨Nat.le_of_ble_eq_true rfl, Nat.le_of_ble_eq_true rfl⟩) hS (fun q _ h => hFc q h) hFc (fun r_5 u t H locs ht9 hvm hwr_5 hB hz1 hk1 hS => ?_)
    obtain ⟨hP, hD⟩ := fr_drop hP hD hk1
    refine lv_aload_n hx hb dL_law_458 rfl (lv_at hl 1 rfl) ?_
    refine lv_aload_n hx hb dL_law_459 rfl (lv_at hl 3 rfl) ?_
    refine lv_iload_n hx hb dL_law_460 rfl (lv_at hl 0 rfl) ?_
    refine lv_iconst (v := 1) hx hb dL_law_461 (by decide) ?_
    refine lv_iadd hx hb dL_law_462 ?_
    refine ow_top 1 (by decide +kernel) ?_
    refine va_sld hx hb hX hbl hbA hS (in_lit (by decide +kernel)) dL_law_463 ?_
    refine ow_top (xs 1) rfl ?_
    refine lv_aload_n hx hb dL_law_464 rfl (lv_at hl 3 rfl) ?_
    refine lv_iload_n hx hb dL_law_465 rfl (lv_at hl 0 rfl) ?_
    refine lv_iconst (v := 2) hx hb dL_law_466 (by decide) ?_
    refine lv_iadd hx hb dL_law_467 ?_
    refine ow_top 2 (by decide +kernel) ?_
    refine va_sld hx hb hX hbl hbA hS (in_lit (by decide +kernel)) dL_law_468 ?_
    refine ow_top (xs 2) rfl ?_
    refine lv_if_eq (tgt := 476) hx hb dL_law_469 (by decide) (fun c_6 => ?_) (fun c_6 => ?_)
    · exfalso
      have z0 : (0 : Int32).toInt = 0 := (by decide); (try simp only [ow_lt, ow_le, ow_eq, true_and, and_true] at c_1 c_6); omega
    · skip
      refine lv_iconst (v := 1) hx hb dL_law_472 (by decide) ?_
      refine lv_goto (tgt := 477) hx hb dL_law_473 (by decide) ?_
      have hFc := fr_free hD hS hA
      refine va_calli (va_runV (As := [.int (xs 1), .int 1]) (rest := [.int r_5]) ⟨hx, hb, hml, hown, ht⟩ (m_doors l G cy _ mo k9 f (xs 1) 1) (cwV 2 ht (gv k_441 k_442 k_443 k_314 k_440) rfl rfl rfl (by decide +kernel) ⟨Nat.le_of_ble_eq_true rfl, Nat.le_of_ble_eq_true rfl⟩) ⟨En.blind, va_recv hK hP (ci := 12) (q0 := 0) rfl rfl, fun U hU hW => ⟨rfl, En.of hU hW hP hK hD hN⟩⟩ rfl rfl hl.1 rfl (lv_room (Nat.le_of_ble_eq_true rfl)) dL_law_477 ⟨Nat.le_of_ble_eq_true rfl, Nat.le_of_ble_eq_true rfl⟩) hS (fun q _ h => hFc q h) hFc (fun r_7 u t H locs ht9 hvm hwr_7 hB hz1 hk1 hS => ?_)
      refine lv_icmp_eq (tgt := 1211) hx hb dL_law_480 (by decide) (fun _ => ?_) (fun c9 => absurd (hwr_5.1.trans hwr_7.1.symm) c9)
      refine lv_iinc (v := 6) (lv' := [(3, .int 6), (2, .ref mo), (1, .ref x), (0, .ref b)]) hx hb dL_law_1211 hl (k := 0) rfl (by decide) (by decide) rfl (fun ls hl => ?_)
      refine lv_goto (tgt := 18) hx hb dL_law_1214 (by decide) ?_
      refine lv_iload_n hx hb dL_law_18 rfl (lv_at hl 0 rfl) ?_
      refine lv_aload_n hx hb dL_law_19 rfl (lv_at hl 3 rfl) ?_
      refine va_slen hx hb hX hbl hbA hS dL_law_20 ?_
      refine ow_top 6 (by decide +kernel) ?_
      refine lv_bipush (v := 6) hx hb dL_law_21 (by decide) ?_
      refine lv_isub hx hb dL_law_23 ?_
      refine ow_top 0 (by decide +kernel) ?_
      refine lv_icmp_gt (tgt := 1217) hx hb dL_law_24 (by decide) (fun _ => ?_) (fun c9 => absurd (by decide) c9)
      refine lv_iconst (v := 1) hx hb dL_law_1217 (by decide) ?_
      refine va_forget (fun q hq => hS.2.2 q hq) ?_
      refine W.widen (k := 600000) (n := 7302250) (Nat.le_of_ble_eq_true rfl) (Nat.le_of_ble_eq_true rfl) ?_
      exact lw_ret hx hb hr hlocks dL_law_1218
set_option maxHeartbeats 4000000 in
set_option maxRecDepth 100000 in
theorem law_9 {p : Program} {e : Env} {s : State} {m : MethodId} {below : List Frame} {meth : Method} {c : Code} (l : Launch) {b : Nat} {xs : Nat → Int32} {G : va_G} {cy : Nat → ClassId} {x mo : Nat} {h k9 : Nat → Nat} {f : Nat → Nat → Int32} (hbm : ∀ k, k < 3 → f 2 k = -1) (hx : p.tables.exec = Jvm.exec) (hb : c.code = code) (hr : meth.sig.returnType = ret) (hml : c.maxLocals = 4) (hown : s.vm.findClass RL = some m.cls) (ht : ∀ w ∈ TBg, w.before #[Value.ref b] s = true) (hX : va_X b 6 xs s s.heap) (hbl : b < s.heap.size) (hlocks : meth.locks = false) (hK : va_K G vwCl (TY cy) s) (hN : NK s) {tsw : Nat} (hSW : SWt tsw (fun q : Nat => s.heap.size ≤ q) s) {H : Heap} {locs : List Loc} (hP : va_P G vwCl (WX cy x h ++ WM cy mo k9 f) H) (hD : va_D (fun q : Nat => s.heap.size ≤ q) (WX cy x h ++ WM cy mo k9 f)) (hS : va_S (fun q : Nat => s.heap.size ≤ q) s.heap H locs) {ls : Array Slot} (hl : lv_has ls 4 [(3, .int 0), (2, .ref mo), (1, .ref x), (0, .ref b)]) : W p l e room_1 s m #[Value.ref b] below meth c H locs 1000 40000 (lw_Z below #[Value.ref b] s) (F0 m 485 ls []) := by
  have hA : ∀ q : Nat, s.heap.size ≤ q → (fun q : Nat => s.heap.size ≤ q) q := fun _ h => h
  have hbA : ¬ (fun q : Nat => s.heap.size ≤ q) b := Nat.not_le.mpr hbl
  refine lv_aload_n hx hb dL_law_485 rfl (lv_at hl 2 rfl) ?_
  refine lv_aload_n hx hb dL_law_486 rfl (lv_at hl 3 rfl) ?_
  refine lv_iload_n hx hb dL_law_487 rfl (lv_at hl 0 rfl) ?_
  refine lv_iconst (v := 1) hx hb dL_law_488 (by decide) ?_
  refine lv_iadd hx hb dL_law_489 ?_
  refine ow_top 1 (by decide +kernel) ?_
  refine va_sld hx hb hX hbl hbA hS (in_lit (by decide +kernel)) dL_law_490 ?_
  refine ow_top (xs 1) rfl ?_
  refine lv_aload_n hx hb dL_law_491 rfl (lv_at hl 3 rfl) ?_
  refine lv_iload_n hx hb dL_law_492 rfl (lv_at hl 0 rfl) ?_
  refine lv_iconst (v := 2) hx hb dL_law_493 (by decide) ?_
  refine lv_iadd hx hb dL_law_494 ?_
  refine ow_top 2 (by decide +kernel) ?_
  refine va_sld hx hb hX hbl hbA hS (in_lit (by decide +kernel)) dL_law_495 ?_
  refine ow_top (xs 2) rfl ?_
  refine lv_aload_n hx hb dL_law_496 rfl (lv_at hl 3 rfl) ?_
  refine lv_iload_n hx hb dL_law_497 rfl (lv_at hl 0 rfl) ?_
  refine lv_iconst (v := 3) hx hb dL_law_498 (by decide) ?_
  refine lv_iadd hx hb dL_law_499 ?_
  refine ow_top 3 (by decide +kernel) ?_
  refine va_sld hx hb hX hbl hbA hS (in_lit (by decide +kernel)) dL_law_500 ?_
  refine ow_top (xs 3) rfl ?_
  refine lv_if_eq (tgt := 508) hx hb dL_law_501 (by decide) (fun c_1 => ?_) (fun c_1 => ?_)
  · skip
    refine lv_iconst (v := 0) hx hb dL_law_508 (by decide) ?_
    have hPD := fr_left hP hD
    have hFc := fr_leftF hD hS hA
    refine va_calli (va_runV (As := [.int (xs 1), .int (xs 2), .int 0]) (rest := []) ⟨hx, hb, hml, hown, ht⟩ (x_asked l G cy _ x h (xs 1) (xs 2) 0) (cwV 3 ht (gv k_445 k_446 k_447 k_183 k_444) rfl rfl rfl (by decide +kernel) ⟨Nat.le_of_ble_eq_true rfl, Nat.le_of_ble_eq_true rfl⟩) ⟨En.blind, va_recv hK hPD.1 (ci := 11) (q0 := 0) rfl rfl, fun U hU hW => ⟨rfl, En.of hU hW hPD.1 hK hPD.2 hN⟩⟩ rfl rfl hl.1 rfl (lv_room (Nat.le_of_ble_eq_true rfl)) dL_law_509 ⟨Nat.le_of_ble_eq_true rfl, Nat.le_of_ble_eq_true rfl⟩) hS (fun q _ h => hFc q h) hFc (fun r_2 u t H locs ht9 hvm hwr_2 hB hz1 hk1 hS => ?_)
    obtain ⟨hP, hD⟩ := fr_drop hP hD hk1
    refine lv_aload_n hx hb dL_law_512 rfl (lv_at hl 1 rfl) ?_
    refine lv_aload_n hx hb dL_law_513 rfl (lv_at hl 3 rfl) ?_
    refine lv_iload_n hx hb dL_law_514 rfl (lv_at hl 0 rfl) ?_
    refine lv_iconst (v := 1) hx hb dL_law_515 (by decide) ?_
    refine lv_iadd hx hb dL_law_516 ?_
    refine ow_top 1 (by decide +kernel) ?_
    refine va_sld hx hb hX hbl hbA hS (in_lit (by decide +kernel)) dL_law_517 ?_
    refine ow_top (xs 1) rfl ?_
    refine lv_aload_n hx hb dL_law_518 rfl (lv_at hl 3 rfl) ?_
    refine lv_iload_n hx hb dL_law_519 rfl (lv_at hl 0 rfl) ?_
    refine lv_iconst (v := 2) hx hb dL_law_520 (by decide) ?_
    refine lv_iadd hx hb dL_law_521 ?_
    refine ow_top 2 (by decide +kernel) ?_
    refine va_sld hx hb hX hbl hbA hS (in_lit (by decide +kernel)) dL_law_522 ?_
    refine ow_top (xs 2) rfl ?_
    refine lv_aload_n hx hb dL_law_523 rfl (lv_at hl 3 rfl) ?_
    refine lv_iload_n hx hb dL_law_524 rfl (lv_at hl 0 rfl) ?_
    refine lv_iconst (v := 3) hx hb dL_law_525 (by decide) ?_
    refine lv_iadd hx hb dL_law_526 ?_
    refine ow_top 3 (by decide +kernel) ?_
    refine va_sld hx hb hX hbl hbA hS (in_lit (by decide +kernel)) dL_law_527 ?_
    refine ow_top (xs 3) rfl ?_
    refine lv_if_eq (tgt := 535) hx hb dL_law_528 (by decide) (fun c_3 => ?_) (fun c_3 => ?_)
    · skip
      refine lv_iconst (v := 0) hx hb dL_law_535 (by decide) ?_
      have hFc := fr_free hD hS hA
      refine va_calli (va_runV (As := [.int (xs 1), .int (xs 2), .int 0]) (rest := [.int r_2]) ⟨hx, hb, hml, hown, ht⟩ (m_asked l G cy _ mo k9 f (xs 1) (xs 2) 0) (cwV 3 ht (gv k_449 k_450 k_451 k_314 k_448) rfl rfl rfl (by decide +kernel) ⟨Nat.le_of_ble_eq_true rfl, Nat.le_of_ble_eq_true rfl⟩) ⟨En.blind, va_recv hK hP (ci := 12) (q0 := 0) rfl rfl, fun U hU hW => ⟨rfl, En.of hU hW hP hK hD hN⟩⟩ rfl rfl hl.1 rfl (lv_room (Nat.le_of_ble_eq_true rfl)) dL_law_536 ⟨Nat.le_of_ble_eq_true rfl, Nat.le_of_ble_eq_true rfl⟩) hS (fun q _ h => hFc q h) hFc (fun r_4 u t H locs ht9 hvm hwr_4 hB hz1 hk1 hS => ?_)
      refine lv_icmp_eq (tgt := 1211) hx hb dL_law_539 (by decide) (fun _ => ?_) (fun c9 => absurd (hwr_2.1.trans hwr_4.1.symm) c9)
      refine lv_iinc (v := 6) (lv' := [(3, .int 6), (2, .ref mo), (1, .ref x), (0, .ref b)]) hx hb dL_law_1211 hl (k := 0) rfl (by decide) (by decide) rfl (fun ls hl => ?_)
      refine lv_goto (tgt := 18) hx hb dL_law_1214 (by decide) ?_
      refine lv_iload_n hx hb dL_law_18 rfl (lv_at hl 0 rfl) ?_
      refine lv_aload_n hx hb dL_law_19 rfl (lv_at hl 3 rfl) ?_
      refine va_slen hx hb hX hbl hbA hS dL_law_20 ?_
      refine ow_top 6 (by decide +kernel) ?_
      refine lv_bipush (v := 6) hx hb dL_law_21 (by decide) ?_
      refine lv_isub hx hb dL_law_23 ?_
      refine ow_top 0 (by decide +kernel) ?_
      refine lv_icmp_gt (tgt := 1217) hx hb dL_law_24 (by decide) (fun _ => ?_) (fun c9 => absurd (by decide) c9)
      refine lv_iconst (v := 1) hx hb dL_law_1217 (by decide) ?_
      refine va_forget (fun q hq => hS.2.2 q hq) ?_
      refine W.widen (k := 600000) (n := 7302250) (Nat.le_of_ble_eq_true rfl) (Nat.le_of_ble_eq_true rfl) ?_
      exact lw_ret hx hb hr hlocks dL_law_1218
    · exfalso
      have z0 : (0 : Int32).toInt = 0 := (by decide); (try simp only [ow_lt, ow_le, ow_eq, true_and, and_true] at c_1 c_3); omega
  · skip
    refine lv_iconst (v := 1) hx hb dL_law_504 (by decide) ?_
    refine lv_goto (tgt := 509) hx hb dL_law_505 (by decide) ?_
    have hPD := fr_left hP hD
    have hFc := fr_leftF hD hS hA
    refine va_calli (va_runV (As := [.int (xs 1), .int (xs 2), .int 1]) (rest := []) ⟨hx, hb, hml, hown, ht⟩ (x_asked l G cy _ x h (xs 1) (xs 2) 1) (cwV 3 ht (gv k_445 k_446 k_447 k_183 k_444) rfl rfl rfl (by decide +kernel) ⟨Nat.le_of_ble_eq_true rfl, Nat.le_of_ble_eq_true rfl⟩) ⟨En.blind, va_recv hK hPD.1 (ci := 11) (q0 := 0) rfl rfl, fun U hU hW => ⟨rfl, En.of hU hW hPD.1 hK hPD.2 hN⟩⟩ rfl rfl hl.1 rfl (lv_room (Nat.le_of_ble_eq_true rfl)) dL_law_509 ⟨Nat.le_of_ble_eq_true rfl, Nat.le_of_ble_eq_true rfl⟩) hS (fun q _ h => hFc q h) hFc (fun r_5 u t H locs ht9 hvm hwr_5 hB hz1 hk1 hS => ?_)
    obtain ⟨hP, hD⟩ := fr_drop hP hD hk1
    refine lv_aload_n hx hb dL_law_512 rfl (lv_at hl 1 rfl) ?_
    refine lv_aload_n hx hb dL_law_513 rfl (lv_at hl 3 rfl) ?_
    refine lv_iload_n hx hb dL_law_514 rfl (lv_at hl 0 rfl) ?_
    refine lv_iconst (v := 1) hx hb dL_law_515 (by decide) ?_
    refine lv_iadd hx hb dL_law_516 ?_
    refine ow_top 1 (by decide +kernel) ?_
    refine va_sld hx hb hX hbl hbA hS (in_lit (by decide +kernel)) dL_law_517 ?_
    refine ow_top (xs 1) rfl ?_
    refine lv_aload_n hx hb dL_law_518 rfl (lv_at hl 3 rfl) ?_
    refine lv_iload_n hx hb dL_law_519 rfl (lv_at hl 0 rfl) ?_
    refine lv_iconst (v := 2) hx hb dL_law_520 (by decide) ?_
    refine lv_iadd hx hb dL_law_521 ?_
    refine ow_top 2 (by decide +kernel) ?_
    refine va_sld hx hb hX hbl hbA hS (in_lit (by decide +kernel)) dL_law_522 ?_
    refine ow_top (xs 2) rfl ?_
    refine lv_aload_n hx hb dL_law_523 rfl (lv_at hl 3 rfl) ?_
    refine lv_iload_n hx hb dL_law_524 rfl (lv_at hl 0 rfl) ?_
    refine lv_iconst (v := 3) hx hb dL_law_525 (by decide) ?_
    refine lv_iadd hx hb dL_law_526 ?_
    refine ow_top 3 (by decide +kernel) ?_
    refine va_sld hx hb hX hbl hbA hS (in_lit (by decide +kernel)) dL_law_527 ?_
    refine ow_top (xs 3) rfl ?_
    refine lv_if_eq (tgt := 535) hx hb dL_law_528 (by decide) (fun c_6 => ?_) (fun c_6 => ?_)
    · exfalso
      have z0 : (0 : Int32).toInt = 0 := (by decide); (try simp only [ow_lt, ow_le, ow_eq, true_and, and_true] at c_1 c_6); omega
    · skip
      refine lv_iconst (v := 1) hx hb dL_law_531 (by decide) ?_
      refine lv_goto (tgt := 536) hx hb dL_law_532 (by decide) ?_
      have hFc := fr_free hD hS hA
      refine va_calli (va_runV (As := [.int (xs 1), .int (xs 2), .int 1]) (rest := [.int r_5]) ⟨hx, hb, hml, hown, ht⟩ (m_asked l G cy _ mo k9 f (xs 1) (xs 2) 1) (cwV 3 ht (gv k_449 k_450 k_451 k_314 k_448) rfl rfl rfl (by decide +kernel) ⟨Nat.le_of_ble_eq_true rfl, Nat.le_of_ble_eq_true rfl⟩) ⟨En.blind, va_recv hK hP (ci := 12) (q0 := 0) rfl rfl, fun U hU hW => ⟨rfl, En.of hU hW hP hK hD hN⟩⟩ rfl rfl hl.1 rfl (lv_room (Nat.le_of_ble_eq_true rfl)) dL_law_536 ⟨Nat.le_of_ble_eq_true rfl, Nat.le_of_ble_eq_true rfl⟩) hS (fun q _ h => hFc q h) hFc (fun r_7 u t H locs ht9 hvm hwr_7 hB hz1 hk1 hS => ?_)
      refine lv_icmp_eq (tgt := 1211) hx hb dL_law_539 (by decide) (fun _ => ?_) (fun c9 => absurd (hwr_5.1.trans hwr_7.1.symm) c9)
      refine lv_iinc (v := 6) (lv' := [(3, .int 6), (2, .ref mo), (1, .ref x), (0, .ref b)]) hx hb dL_law_1211 hl (k := 0) rfl (by decide) (by decide) rfl (fun ls hl => ?_)
      refine lv_goto (tgt := 18) hx hb dL_law_1214 (by decide) ?_
      refine lv_iload_n hx hb dL_law_18 rfl (lv_at hl 0 rfl) ?_
      refine lv_aload_n hx hb dL_law_19 rfl (lv_at hl 3 rfl) ?_
      refine va_slen hx hb hX hbl hbA hS dL_law_20 ?_
      refine ow_top 6 (by decide +kernel) ?_
      refine lv_bipush (v := 6) hx hb dL_law_21 (by decide) ?_
      refine lv_isub hx hb dL_law_23 ?_
      refine ow_top 0 (by decide +kernel) ?_
      refine lv_icmp_gt (tgt := 1217) hx hb dL_law_24 (by decide) (fun _ => ?_) (fun c9 => absurd (by decide) c9)
      refine lv_iconst (v := 1) hx hb dL_law_1217 (by decide) ?_
      refine va_forget (fun q hq => hS.2.2 q hq) ?_
      refine W.widen (k := 600000) (n := 7302250) (Nat.le_of_ble_eq_true rfl) (Nat.le_of_ble_eq_true rfl) ?_
      exact lw_ret hx hb hr hlocks dL_law_1218
set_option maxHeartbeats 4000000 in
set_option maxRecDepth 100000 in
theorem law_10 {p : Program} {e : Env} {s : State} {m : MethodId} {below : List Frame} {meth : Method} {c : Code} (l : Launch) {b : Nat} {xs : Nat → Int32} {G : va_G} {cy : Nat → ClassId} {x mo : Nat} {h k9 : Nat → Nat} {f : Nat → Nat → Int32} (hbm : ∀ k, k < 3 → f 2 k = -1) (hx : p.tables.exec = Jvm.exec) (hb : c.code = code) (hr : meth.sig.returnType = ret) (hml : c.maxLocals = 4) (hown : s.vm.findClass RL = some m.cls) (ht : ∀ w ∈ TBg, w.before #[Value.ref b] s = true) (hX : va_X b 6 xs s s.heap) (hbl : b < s.heap.size) (hlocks : meth.locks = false) (hK : va_K G vwCl (TY cy) s) (hN : NK s) {tsw : Nat} (hSW : SWt tsw (fun q : Nat => s.heap.size ≤ q) s) {H : Heap} {locs : List Loc} (hP : va_P G vwCl (WX cy x h ++ WM cy mo k9 f) H) (hD : va_D (fun q : Nat => s.heap.size ≤ q) (WX cy x h ++ WM cy mo k9 f)) (hS : va_S (fun q : Nat => s.heap.size ≤ q) s.heap H locs) {ls : Array Slot} (hl : lv_has ls 4 [(3, .int 0), (2, .ref mo), (1, .ref x), (0, .ref b)]) : W p l e room_1 s m #[Value.ref b] below meth c H locs 1000 40000 (lw_Z below #[Value.ref b] s) (F0 m 544 ls []) := by
  have hA : ∀ q : Nat, s.heap.size ≤ q → (fun q : Nat => s.heap.size ≤ q) q := fun _ h => h
  have hbA : ¬ (fun q : Nat => s.heap.size ≤ q) b := Nat.not_le.mpr hbl
  refine lv_aload_n hx hb dL_law_544 rfl (lv_at hl 2 rfl) ?_
  refine lv_aload_n hx hb dL_law_545 rfl (lv_at hl 3 rfl) ?_
  refine lv_iload_n hx hb dL_law_546 rfl (lv_at hl 0 rfl) ?_
  refine lv_iconst (v := 1) hx hb dL_law_547 (by decide) ?_
  refine lv_iadd hx hb dL_law_548 ?_
  refine ow_top 1 (by decide +kernel) ?_
  refine va_sld hx hb hX hbl hbA hS (in_lit (by decide +kernel)) dL_law_549 ?_
  refine ow_top (xs 1) rfl ?_
  have hPD := fr_left hP hD
  have hFc := fr_leftF hD hS hA
  refine va_calli (va_runV (As := [.int (xs 1)]) (rest := []) ⟨hx, hb, hml, hown, ht⟩ (x_dealt l G cy _ x h (xs 1)) (cwV 1 ht (gv k_453 k_454 k_455 k_183 k_452) rfl rfl rfl (by decide +kernel) ⟨Nat.le_of_ble_eq_true rfl, Nat.le_of_ble_eq_true rfl⟩) ⟨En.blind, va_recv hK hPD.1 (ci := 11) (q0 := 0) rfl rfl, fun U hU hW => ⟨rfl, En.of hU hW hPD.1 hK hPD.2 hN⟩⟩ rfl rfl hl.1 rfl (lv_room (Nat.le_of_ble_eq_true rfl)) dL_law_550 ⟨Nat.le_of_ble_eq_true rfl, Nat.le_of_ble_eq_true rfl⟩) hS (fun q _ h => hFc q h) hFc (fun r_1 u t H locs ht9 hvm hwr_1 hB hz1 hk1 hS => ?_)
  obtain ⟨hP, hD⟩ := fr_drop hP hD hk1
  refine lv_aload_n hx hb dL_law_553 rfl (lv_at hl 1 rfl) ?_
  refine lv_aload_n hx hb dL_law_554 rfl (lv_at hl 3 rfl) ?_
  refine lv_iload_n hx hb dL_law_555 rfl (lv_at hl 0 rfl) ?_
  refine lv_iconst (v := 1) hx hb dL_law_556 (by decide) ?_
  refine lv_iadd hx hb dL_law_557 ?_
  refine ow_top 1 (by decide +kernel) ?_
  refine va_sld hx hb hX hbl hbA hS (in_lit (by decide +kernel)) dL_law_558 ?_
  refine ow_top (xs 1) rfl ?_
  have hFc := fr_free hD hS hA
  refine va_calli (va_runV (As := [.int (xs 1)]) (rest := [.int r_1]) ⟨hx, hb, hml, hown, ht⟩ (m_dealt l G cy _ mo k9 f (xs 1)) (cwV 1 ht (gv k_457 k_458 k_459 k_314 k_456) rfl rfl rfl (by decide +kernel) ⟨Nat.le_of_ble_eq_true rfl, Nat.le_of_ble_eq_true rfl⟩) ⟨En.blind, va_recv hK hP (ci := 12) (q0 := 0) rfl rfl, fun U hU hW => ⟨rfl, En.of hU hW hP hK hD hN⟩⟩ rfl rfl hl.1 rfl (lv_room (Nat.le_of_ble_eq_true rfl)) dL_law_559 ⟨Nat.le_of_ble_eq_true rfl, Nat.le_of_ble_eq_true rfl⟩) hS (fun q _ h => hFc q h) hFc (fun r_2 u t H locs ht9 hvm hwr_2 hB hz1 hk1 hS => ?_)
  refine lv_icmp_eq (tgt := 1211) hx hb dL_law_562 (by decide) (fun _ => ?_) (fun c9 => absurd (hwr_1.1.trans hwr_2.1.symm) c9)
  refine lv_iinc (v := 6) (lv' := [(3, .int 6), (2, .ref mo), (1, .ref x), (0, .ref b)]) hx hb dL_law_1211 hl (k := 0) rfl (by decide) (by decide) rfl (fun ls hl => ?_)
  refine lv_goto (tgt := 18) hx hb dL_law_1214 (by decide) ?_
  refine lv_iload_n hx hb dL_law_18 rfl (lv_at hl 0 rfl) ?_
  refine lv_aload_n hx hb dL_law_19 rfl (lv_at hl 3 rfl) ?_
  refine va_slen hx hb hX hbl hbA hS dL_law_20 ?_
  refine ow_top 6 (by decide +kernel) ?_
  refine lv_bipush (v := 6) hx hb dL_law_21 (by decide) ?_
  refine lv_isub hx hb dL_law_23 ?_
  refine ow_top 0 (by decide +kernel) ?_
  refine lv_icmp_gt (tgt := 1217) hx hb dL_law_24 (by decide) (fun _ => ?_) (fun c9 => absurd (by decide) c9)
  refine lv_iconst (v := 1) hx hb dL_law_1217 (by decide) ?_
  refine va_forget (fun q hq => hS.2.2 q hq) ?_
  refine W.widen (k := 600000) (n := 7302250) (Nat.le_of_ble_eq_true rfl) (Nat.le_of_ble_eq_true rfl) ?_
  exact lw_ret hx hb hr hlocks dL_law_1218
set_option maxHeartbeats 4000000 in
set_option maxRecDepth 100000 in
theorem law_11 {p : Program} {e : Env} {s : State} {m : MethodId} {below : List Frame} {meth : Method} {c : Code} (l : Launch) {b : Nat} {xs : Nat → Int32} {G : va_G} {cy : Nat → ClassId} {x mo : Nat} {h k9 : Nat → Nat} {f : Nat → Nat → Int32} (hbm : ∀ k, k < 3 → f 2 k = -1) (hx : p.tables.exec = Jvm.exec) (hb : c.code = code) (hr : meth.sig.returnType = ret) (hml : c.maxLocals = 4) (hown : s.vm.findClass RL = some m.cls) (ht : ∀ w ∈ TBg, w.before #[Value.ref b] s = true) (hX : va_X b 6 xs s s.heap) (hbl : b < s.heap.size) (hlocks : meth.locks = false) (hK : va_K G vwCl (TY cy) s) (hN : NK s) {tsw : Nat} (hSW : SWt tsw (fun q : Nat => s.heap.size ≤ q) s) {H : Heap} {locs : List Loc} (hP : va_P G vwCl (WX cy x h ++ WM cy mo k9 f) H) (hD : va_D (fun q : Nat => s.heap.size ≤ q) (WX cy x h ++ WM cy mo k9 f)) (hS : va_S (fun q : Nat => s.heap.size ≤ q) s.heap H locs) {ls : Array Slot} (hl : lv_has ls 4 [(3, .int 0), (2, .ref mo), (1, .ref x), (0, .ref b)]) : W p l e room_1 s m #[Value.ref b] below meth c H locs 1000 40000 (lw_Z below #[Value.ref b] s) (F0 m 567 ls []) := by
  have hA : ∀ q : Nat, s.heap.size ≤ q → (fun q : Nat => s.heap.size ≤ q) q := fun _ h => h
  have hbA : ¬ (fun q : Nat => s.heap.size ≤ q) b := Nat.not_le.mpr hbl
  refine lv_aload_n hx hb dL_law_567 rfl (lv_at hl 2 rfl) ?_
  refine lv_aload_n hx hb dL_law_568 rfl (lv_at hl 3 rfl) ?_
  refine lv_iload_n hx hb dL_law_569 rfl (lv_at hl 0 rfl) ?_
  refine lv_iconst (v := 1) hx hb dL_law_570 (by decide) ?_
  refine lv_iadd hx hb dL_law_571 ?_
  refine ow_top 1 (by decide +kernel) ?_
  refine va_sld hx hb hX hbl hbA hS (in_lit (by decide +kernel)) dL_law_572 ?_
  refine ow_top (xs 1) rfl ?_
  refine lv_aload_n hx hb dL_law_573 rfl (lv_at hl 3 rfl) ?_
  refine lv_iload_n hx hb dL_law_574 rfl (lv_at hl 0 rfl) ?_
  refine lv_iconst (v := 2) hx hb dL_law_575 (by decide) ?_
  refine lv_iadd hx hb dL_law_576 ?_
  refine ow_top 2 (by decide +kernel) ?_
  refine va_sld hx hb hX hbl hbA hS (in_lit (by decide +kernel)) dL_law_577 ?_
  refine ow_top (xs 2) rfl ?_
  have hPD := fr_left hP hD
  have hFc := fr_leftF hD hS hA
  refine va_calli (va_runV (As := [.int (xs 1), .int (xs 2)]) (rest := []) ⟨hx, hb, hml, hown, ht⟩ (x_master l G cy _ x h (xs 1) (xs 2)) (cwV 2 ht (gv k_461 k_462 k_463 k_183 k_460) rfl rfl rfl (by decide +kernel) ⟨Nat.le_of_ble_eq_true rfl, Nat.le_of_ble_eq_true rfl⟩) ⟨En.blind, va_recv hK hPD.1 (ci := 11) (q0 := 0) rfl rfl, fun U hU hW => ⟨rfl, En.of hU hW hPD.1 hK hPD.2 hN⟩⟩ rfl rfl hl.1 rfl (lv_room (Nat.le_of_ble_eq_true rfl)) dL_law_578 ⟨Nat.le_of_ble_eq_true rfl, Nat.le_of_ble_eq_true rfl⟩) hS (fun q _ h => hFc q h) hFc (fun r_1 u t H locs ht9 hvm hwr_1 hB hz1 hk1 hS => ?_)
  obtain ⟨hP, hD⟩ := fr_drop hP hD hk1
  refine lv_aload_n hx hb dL_law_581 rfl (lv_at hl 1 rfl) ?_
  refine lv_aload_n hx hb dL_law_582 rfl (lv_at hl 3 rfl) ?_
  refine lv_iload_n hx hb dL_law_583 rfl (lv_at hl 0 rfl) ?_
  refine lv_iconst (v := 1) hx hb dL_law_584 (by decide) ?_
  refine lv_iadd hx hb dL_law_585 ?_
  refine ow_top 1 (by decide +kernel) ?_
  refine va_sld hx hb hX hbl hbA hS (in_lit (by decide +kernel)) dL_law_586 ?_
  refine ow_top (xs 1) rfl ?_
  refine lv_aload_n hx hb dL_law_587 rfl (lv_at hl 3 rfl) ?_
  refine lv_iload_n hx hb dL_law_588 rfl (lv_at hl 0 rfl) ?_
  refine lv_iconst (v := 2) hx hb dL_law_589 (by decide) ?_
  refine lv_iadd hx hb dL_law_590 ?_
  refine ow_top 2 (by decide +kernel) ?_
  refine va_sld hx hb hX hbl hbA hS (in_lit (by decide +kernel)) dL_law_591 ?_
  refine ow_top (xs 2) rfl ?_
  have hFc := fr_free hD hS hA
  refine va_calli (va_runV (As := [.int (xs 1), .int (xs 2)]) (rest := [.int r_1]) ⟨hx, hb, hml, hown, ht⟩ (m_master l G cy _ mo k9 f (xs 1) (xs 2)) (cwV 2 ht (gv k_465 k_466 k_467 k_314 k_464) rfl rfl rfl (by decide +kernel) ⟨Nat.le_of_ble_eq_true rfl, Nat.le_of_ble_eq_true rfl⟩) ⟨En.blind, va_recv hK hP (ci := 12) (q0 := 0) rfl rfl, fun U hU hW => ⟨rfl, En.of hU hW hP hK hD hN⟩⟩ rfl rfl hl.1 rfl (lv_room (Nat.le_of_ble_eq_true rfl)) dL_law_592 ⟨Nat.le_of_ble_eq_true rfl, Nat.le_of_ble_eq_true rfl⟩) hS (fun q _ h => hFc q h) hFc (fun r_2 u t H locs ht9 hvm hwr_2 hB hz1 hk1 hS => ?_)
  refine lv_icmp_eq (tgt := 1211) hx hb dL_law_595 (by decide) (fun _ => ?_) (fun c9 => absurd (hwr_1.1.trans hwr_2.1.symm) c9)
  refine lv_iinc (v := 6) (lv' := [(3, .int 6), (2, .ref mo), (1, .ref x), (0, .ref b)]) hx hb dL_law_1211 hl (k := 0) rfl (by decide) (by decide) rfl (fun ls hl => ?_)
  refine lv_goto (tgt := 18) hx hb dL_law_1214 (by decide) ?_
  refine lv_iload_n hx hb dL_law_18 rfl (lv_at hl 0 rfl) ?_
  refine lv_aload_n hx hb dL_law_19 rfl (lv_at hl 3 rfl) ?_
  refine va_slen hx hb hX hbl hbA hS dL_law_20 ?_
  refine ow_top 6 (by decide +kernel) ?_
  refine lv_bipush (v := 6) hx hb dL_law_21 (by decide) ?_
  refine lv_isub hx hb dL_law_23 ?_
  refine ow_top 0 (by decide +kernel) ?_
  refine lv_icmp_gt (tgt := 1217) hx hb dL_law_24 (by decide) (fun _ => ?_) (fun c9 => absurd (by decide) c9)
  refine lv_iconst (v := 1) hx hb dL_law_1217 (by decide) ?_
  refine va_forget (fun q hq => hS.2.2 q hq) ?_
  refine W.widen (k := 600000) (n := 7302250) (Nat.le_of_ble_eq_true rfl) (Nat.le_of_ble_eq_true rfl) ?_
  exact lw_ret hx hb hr hlocks dL_law_1218
set_option maxHeartbeats 4000000 in
set_option maxRecDepth 100000 in
theorem law_12 {p : Program} {e : Env} {s : State} {m : MethodId} {below : List Frame} {meth : Method} {c : Code} (l : Launch) {b : Nat} {xs : Nat → Int32} {G : va_G} {cy : Nat → ClassId} {x mo : Nat} {h k9 : Nat → Nat} {f : Nat → Nat → Int32} (hbm : ∀ k, k < 3 → f 2 k = -1) (hx : p.tables.exec = Jvm.exec) (hb : c.code = code) (hr : meth.sig.returnType = ret) (hml : c.maxLocals = 4) (hown : s.vm.findClass RL = some m.cls) (ht : ∀ w ∈ TBg, w.before #[Value.ref b] s = true) (hX : va_X b 6 xs s s.heap) (hbl : b < s.heap.size) (hlocks : meth.locks = false) (hK : va_K G vwCl (TY cy) s) (hN : NK s) {tsw : Nat} (hSW : SWt tsw (fun q : Nat => s.heap.size ≤ q) s) {H : Heap} {locs : List Loc} (hP : va_P G vwCl (WX cy x h ++ WM cy mo k9 f) H) (hD : va_D (fun q : Nat => s.heap.size ≤ q) (WX cy x h ++ WM cy mo k9 f)) (hS : va_S (fun q : Nat => s.heap.size ≤ q) s.heap H locs) {ls : Array Slot} (hl : lv_has ls 4 [(3, .int 0), (2, .ref mo), (1, .ref x), (0, .ref b)]) : W p l e room_1 s m #[Value.ref b] below meth c H locs 1000 40000 (lw_Z below #[Value.ref b] s) (F0 m 600 ls []) := by
  have hA : ∀ q : Nat, s.heap.size ≤ q → (fun q : Nat => s.heap.size ≤ q) q := fun _ h => h
  have hbA : ¬ (fun q : Nat => s.heap.size ≤ q) b := Nat.not_le.mpr hbl
  refine lv_aload_n hx hb dL_law_600 rfl (lv_at hl 2 rfl) ?_
  refine lv_aload_n hx hb dL_law_601 rfl (lv_at hl 3 rfl) ?_
  refine lv_iload_n hx hb dL_law_602 rfl (lv_at hl 0 rfl) ?_
  refine lv_iconst (v := 1) hx hb dL_law_603 (by decide) ?_
  refine lv_iadd hx hb dL_law_604 ?_
  refine ow_top 1 (by decide +kernel) ?_
  refine va_sld hx hb hX hbl hbA hS (in_lit (by decide +kernel)) dL_law_605 ?_
  refine ow_top (xs 1) rfl ?_
  refine lv_aload_n hx hb dL_law_606 rfl (lv_at hl 3 rfl) ?_
  refine lv_iload_n hx hb dL_law_607 rfl (lv_at hl 0 rfl) ?_
  refine lv_iconst (v := 2) hx hb dL_law_608 (by decide) ?_
  refine lv_iadd hx hb dL_law_609 ?_
  refine ow_top 2 (by decide +kernel) ?_
  refine va_sld hx hb hX hbl hbA hS (in_lit (by decide +kernel)) dL_law_610 ?_
  refine ow_top (xs 2) rfl ?_
  have hPD := fr_left hP hD
  have hFc := fr_leftF hD hS hA
  refine va_calli (va_runV (As := [.int (xs 1), .int (xs 2)]) (rest := []) ⟨hx, hb, hml, hown, ht⟩ (x_round l G cy _ x h (xs 1) (xs 2)) (cwV 2 ht (gv k_469 k_470 k_471 k_183 k_468) rfl rfl rfl (by decide +kernel) ⟨Nat.le_of_ble_eq_true rfl, Nat.le_of_ble_eq_true rfl⟩) ⟨En.blind, va_recv hK hPD.1 (ci := 11) (q0 := 0) rfl rfl, fun U hU hW => ⟨rfl, En.of hU hW hPD.1 hK hPD.2 hN⟩⟩ rfl rfl hl.1 rfl (lv_room (Nat.le_of_ble_eq_true rfl)) dL_law_611 ⟨Nat.le_of_ble_eq_true rfl, Nat.le_of_ble_eq_true rfl⟩) hS (fun q _ h => hFc q h) hFc (fun r_1 u t H locs ht9 hvm hwr_1 hB hz1 hk1 hS => ?_)
  obtain ⟨hP, hD⟩ := fr_drop hP hD hk1
  refine lv_aload_n hx hb dL_law_614 rfl (lv_at hl 1 rfl) ?_
  refine lv_aload_n hx hb dL_law_615 rfl (lv_at hl 3 rfl) ?_
  refine lv_iload_n hx hb dL_law_616 rfl (lv_at hl 0 rfl) ?_
  refine lv_iconst (v := 1) hx hb dL_law_617 (by decide) ?_
  refine lv_iadd hx hb dL_law_618 ?_
  refine ow_top 1 (by decide +kernel) ?_
  refine va_sld hx hb hX hbl hbA hS (in_lit (by decide +kernel)) dL_law_619 ?_
  refine ow_top (xs 1) rfl ?_
  refine lv_aload_n hx hb dL_law_620 rfl (lv_at hl 3 rfl) ?_
  refine lv_iload_n hx hb dL_law_621 rfl (lv_at hl 0 rfl) ?_
  refine lv_iconst (v := 2) hx hb dL_law_622 (by decide) ?_
  refine lv_iadd hx hb dL_law_623 ?_
  refine ow_top 2 (by decide +kernel) ?_
  refine va_sld hx hb hX hbl hbA hS (in_lit (by decide +kernel)) dL_law_624 ?_
  refine ow_top (xs 2) rfl ?_
  have hFc := fr_free hD hS hA
  refine va_calli (va_runV (As := [.int (xs 1), .int (xs 2)]) (rest := [.int r_1]) ⟨hx, hb, hml, hown, ht⟩ (m_round l G cy _ mo k9 f (xs 1) (xs 2)) (cwV 2 ht (gv k_473 k_474 k_475 k_314 k_472) rfl rfl rfl (by decide +kernel) ⟨Nat.le_of_ble_eq_true rfl, Nat.le_of_ble_eq_true rfl⟩) ⟨En.blind, va_recv hK hP (ci := 12) (q0 := 0) rfl rfl, fun U hU hW => ⟨rfl, En.of hU hW hP hK hD hN⟩⟩ rfl rfl hl.1 rfl (lv_room (Nat.le_of_ble_eq_true rfl)) dL_law_625 ⟨Nat.le_of_ble_eq_true rfl, Nat.le_of_ble_eq_true rfl⟩) hS (fun q _ h => hFc q h) hFc (fun r_2 u t H locs ht9 hvm hwr_2 hB hz1 hk1 hS => ?_)
  refine lv_icmp_eq (tgt := 1211) hx hb dL_law_628 (by decide) (fun _ => ?_) (fun c9 => absurd (hwr_1.1.trans hwr_2.1.symm) c9)
  refine lv_iinc (v := 6) (lv' := [(3, .int 6), (2, .ref mo), (1, .ref x), (0, .ref b)]) hx hb dL_law_1211 hl (k := 0) rfl (by decide) (by decide) rfl (fun ls hl => ?_)
  refine lv_goto (tgt := 18) hx hb dL_law_1214 (by decide) ?_
  refine lv_iload_n hx hb dL_law_18 rfl (lv_at hl 0 rfl) ?_
  refine lv_aload_n hx hb dL_law_19 rfl (lv_at hl 3 rfl) ?_
  refine va_slen hx hb hX hbl hbA hS dL_law_20 ?_
  refine ow_top 6 (by decide +kernel) ?_
  refine lv_bipush (v := 6) hx hb dL_law_21 (by decide) ?_
  refine lv_isub hx hb dL_law_23 ?_
  refine ow_top 0 (by decide +kernel) ?_
  refine lv_icmp_gt (tgt := 1217) hx hb dL_law_24 (by decide) (fun _ => ?_) (fun c9 => absurd (by decide) c9)
  refine lv_iconst (v := 1) hx hb dL_law_1217 (by decide) ?_
  refine va_forget (fun q hq => hS.2.2 q hq) ?_
  refine W.widen (k := 600000) (n := 7302250) (Nat.le_of_ble_eq_true rfl) (Nat.le_of_ble_eq_true rfl) ?_
  exact lw_ret hx hb hr hlocks dL_law_1218
set_option maxHeartbeats 4000000 in
set_option maxRecDepth 100000 in
theorem law_13 {p : Program} {e : Env} {s : State} {m : MethodId} {below : List Frame} {meth : Method} {c : Code} (l : Launch) {b : Nat} {xs : Nat → Int32} {G : va_G} {cy : Nat → ClassId} {x mo : Nat} {h k9 : Nat → Nat} {f : Nat → Nat → Int32} (hbm : ∀ k, k < 3 → f 2 k = -1) (hx : p.tables.exec = Jvm.exec) (hb : c.code = code) (hr : meth.sig.returnType = ret) (hml : c.maxLocals = 4) (hown : s.vm.findClass RL = some m.cls) (ht : ∀ w ∈ TBg, w.before #[Value.ref b] s = true) (hX : va_X b 6 xs s s.heap) (hbl : b < s.heap.size) (hlocks : meth.locks = false) (hK : va_K G vwCl (TY cy) s) (hN : NK s) {tsw : Nat} (hSW : SWt tsw (fun q : Nat => s.heap.size ≤ q) s) {H : Heap} {locs : List Loc} (hP : va_P G vwCl (WX cy x h ++ WM cy mo k9 f) H) (hD : va_D (fun q : Nat => s.heap.size ≤ q) (WX cy x h ++ WM cy mo k9 f)) (hS : va_S (fun q : Nat => s.heap.size ≤ q) s.heap H locs) {ls : Array Slot} (hl : lv_has ls 4 [(3, .int 0), (2, .ref mo), (1, .ref x), (0, .ref b)]) : W p l e room_1 s m #[Value.ref b] below meth c H locs 1000 40000 (lw_Z below #[Value.ref b] s) (F0 m 633 ls []) := by
  have hA : ∀ q : Nat, s.heap.size ≤ q → (fun q : Nat => s.heap.size ≤ q) q := fun _ h => h
  have hbA : ¬ (fun q : Nat => s.heap.size ≤ q) b := Nat.not_le.mpr hbl
  refine lv_aload_n hx hb dL_law_633 rfl (lv_at hl 2 rfl) ?_
  refine lv_aload_n hx hb dL_law_634 rfl (lv_at hl 3 rfl) ?_
  refine lv_iload_n hx hb dL_law_635 rfl (lv_at hl 0 rfl) ?_
  refine lv_iconst (v := 1) hx hb dL_law_636 (by decide) ?_
  refine lv_iadd hx hb dL_law_637 ?_
  refine ow_top 1 (by decide +kernel) ?_
  refine va_sld hx hb hX hbl hbA hS (in_lit (by decide +kernel)) dL_law_638 ?_
  refine ow_top (xs 1) rfl ?_
  refine lv_aload_n hx hb dL_law_639 rfl (lv_at hl 3 rfl) ?_
  refine lv_iload_n hx hb dL_law_640 rfl (lv_at hl 0 rfl) ?_
  refine lv_iconst (v := 2) hx hb dL_law_641 (by decide) ?_
  refine lv_iadd hx hb dL_law_642 ?_
  refine ow_top 2 (by decide +kernel) ?_
  refine va_sld hx hb hX hbl hbA hS (in_lit (by decide +kernel)) dL_law_643 ?_
  refine ow_top (xs 2) rfl ?_
  have hPD := fr_left hP hD
  have hFc := fr_leftF hD hS hA
  refine va_calli (va_runV (As := [.int (xs 1), .int (xs 2)]) (rest := []) ⟨hx, hb, hml, hown, ht⟩ (x_good l G cy _ x h (xs 1) (xs 2)) (cwV 2 ht (gv k_477 k_478 k_479 k_183 k_476) rfl rfl rfl (by decide +kernel) ⟨Nat.le_of_ble_eq_true rfl, Nat.le_of_ble_eq_true rfl⟩) ⟨En.blind, va_recv hK hPD.1 (ci := 11) (q0 := 0) rfl rfl, fun U hU hW => ⟨rfl, En.of hU hW hPD.1 hK hPD.2 hN⟩⟩ rfl rfl hl.1 rfl (lv_room (Nat.le_of_ble_eq_true rfl)) dL_law_644 ⟨Nat.le_of_ble_eq_true rfl, Nat.le_of_ble_eq_true rfl⟩) hS (fun q _ h => hFc q h) hFc (fun r_1 u t H locs ht9 hvm hwr_1 hB hz1 hk1 hS => ?_)
  obtain ⟨hP, hD⟩ := fr_drop hP hD hk1
  refine lv_aload_n hx hb dL_law_647 rfl (lv_at hl 1 rfl) ?_
  refine lv_aload_n hx hb dL_law_648 rfl (lv_at hl 3 rfl) ?_
  refine lv_iload_n hx hb dL_law_649 rfl (lv_at hl 0 rfl) ?_
  refine lv_iconst (v := 1) hx hb dL_law_650 (by decide) ?_
  refine lv_iadd hx hb dL_law_651 ?_
  refine ow_top 1 (by decide +kernel) ?_
  refine va_sld hx hb hX hbl hbA hS (in_lit (by decide +kernel)) dL_law_652 ?_
  refine ow_top (xs 1) rfl ?_
  refine lv_aload_n hx hb dL_law_653 rfl (lv_at hl 3 rfl) ?_
  refine lv_iload_n hx hb dL_law_654 rfl (lv_at hl 0 rfl) ?_
  refine lv_iconst (v := 2) hx hb dL_law_655 (by decide) ?_
  refine lv_iadd hx hb dL_law_656 ?_
  refine ow_top 2 (by decide +kernel) ?_
  refine va_sld hx hb hX hbl hbA hS (in_lit (by decide +kernel)) dL_law_657 ?_
  refine ow_top (xs 2) rfl ?_
  have hFc := fr_free hD hS hA
  refine va_calli (va_runV (As := [.int (xs 1), .int (xs 2)]) (rest := [.int r_1]) ⟨hx, hb, hml, hown, ht⟩ (m_good l G cy _ mo k9 f (xs 1) (xs 2)) (cwV 2 ht (gv k_481 k_482 k_483 k_314 k_480) rfl rfl rfl (by decide +kernel) ⟨Nat.le_of_ble_eq_true rfl, Nat.le_of_ble_eq_true rfl⟩) ⟨En.blind, va_recv hK hP (ci := 12) (q0 := 0) rfl rfl, fun U hU hW => ⟨rfl, En.of hU hW hP hK hD hN⟩⟩ rfl rfl hl.1 rfl (lv_room (Nat.le_of_ble_eq_true rfl)) dL_law_658 ⟨Nat.le_of_ble_eq_true rfl, Nat.le_of_ble_eq_true rfl⟩) hS (fun q _ h => hFc q h) hFc (fun r_2 u t H locs ht9 hvm hwr_2 hB hz1 hk1 hS => ?_)
  refine lv_icmp_eq (tgt := 1211) hx hb dL_law_661 (by decide) (fun _ => ?_) (fun c9 => absurd (hwr_1.1.trans hwr_2.1.symm) c9)
  refine lv_iinc (v := 6) (lv' := [(3, .int 6), (2, .ref mo), (1, .ref x), (0, .ref b)]) hx hb dL_law_1211 hl (k := 0) rfl (by decide) (by decide) rfl (fun ls hl => ?_)
  refine lv_goto (tgt := 18) hx hb dL_law_1214 (by decide) ?_
  refine lv_iload_n hx hb dL_law_18 rfl (lv_at hl 0 rfl) ?_
  refine lv_aload_n hx hb dL_law_19 rfl (lv_at hl 3 rfl) ?_
  refine va_slen hx hb hX hbl hbA hS dL_law_20 ?_
  refine ow_top 6 (by decide +kernel) ?_
  refine lv_bipush (v := 6) hx hb dL_law_21 (by decide) ?_
  refine lv_isub hx hb dL_law_23 ?_
  refine ow_top 0 (by decide +kernel) ?_
  refine lv_icmp_gt (tgt := 1217) hx hb dL_law_24 (by decide) (fun _ => ?_) (fun c9 => absurd (by decide) c9)
  refine lv_iconst (v := 1) hx hb dL_law_1217 (by decide) ?_
  refine va_forget (fun q hq => hS.2.2 q hq) ?_
  refine W.widen (k := 600000) (n := 7302250) (Nat.le_of_ble_eq_true rfl) (Nat.le_of_ble_eq_true rfl) ?_
  exact lw_ret hx hb hr hlocks dL_law_1218
set_option maxHeartbeats 4000000 in
set_option maxRecDepth 100000 in
theorem law_14 {p : Program} {e : Env} {s : State} {m : MethodId} {below : List Frame} {meth : Method} {c : Code} (l : Launch) {b : Nat} {xs : Nat → Int32} {G : va_G} {cy : Nat → ClassId} {x mo : Nat} {h k9 : Nat → Nat} {f : Nat → Nat → Int32} (hbm : ∀ k, k < 3 → f 2 k = -1) (hx : p.tables.exec = Jvm.exec) (hb : c.code = code) (hr : meth.sig.returnType = ret) (hml : c.maxLocals = 4) (hown : s.vm.findClass RL = some m.cls) (ht : ∀ w ∈ TBg, w.before #[Value.ref b] s = true) (hX : va_X b 6 xs s s.heap) (hbl : b < s.heap.size) (hlocks : meth.locks = false) (hK : va_K G vwCl (TY cy) s) (hN : NK s) {tsw : Nat} (hSW : SWt tsw (fun q : Nat => s.heap.size ≤ q) s) {H : Heap} {locs : List Loc} (hP : va_P G vwCl (WX cy x h ++ WM cy mo k9 f) H) (hD : va_D (fun q : Nat => s.heap.size ≤ q) (WX cy x h ++ WM cy mo k9 f)) (hS : va_S (fun q : Nat => s.heap.size ≤ q) s.heap H locs) {ls : Array Slot} (hl : lv_has ls 4 [(3, .int 0), (2, .ref mo), (1, .ref x), (0, .ref b)]) : W p l e room_1 s m #[Value.ref b] below meth c H locs 1000 40000 (lw_Z below #[Value.ref b] s) (F0 m 666 ls []) := by
  have hA : ∀ q : Nat, s.heap.size ≤ q → (fun q : Nat => s.heap.size ≤ q) q := fun _ h => h
  have hbA : ¬ (fun q : Nat => s.heap.size ≤ q) b := Nat.not_le.mpr hbl
  refine lv_aload_n hx hb dL_law_666 rfl (lv_at hl 2 rfl) ?_
  refine lv_aload_n hx hb dL_law_667 rfl (lv_at hl 3 rfl) ?_
  refine lv_iload_n hx hb dL_law_668 rfl (lv_at hl 0 rfl) ?_
  refine lv_iconst (v := 1) hx hb dL_law_669 (by decide) ?_
  refine lv_iadd hx hb dL_law_670 ?_
  refine ow_top 1 (by decide +kernel) ?_
  refine va_sld hx hb hX hbl hbA hS (in_lit (by decide +kernel)) dL_law_671 ?_
  refine ow_top (xs 1) rfl ?_
  refine lv_aload_n hx hb dL_law_672 rfl (lv_at hl 3 rfl) ?_
  refine lv_iload_n hx hb dL_law_673 rfl (lv_at hl 0 rfl) ?_
  refine lv_iconst (v := 2) hx hb dL_law_674 (by decide) ?_
  refine lv_iadd hx hb dL_law_675 ?_
  refine ow_top 2 (by decide +kernel) ?_
  refine va_sld hx hb hX hbl hbA hS (in_lit (by decide +kernel)) dL_law_676 ?_
  refine ow_top (xs 2) rfl ?_
  refine lv_aload_n hx hb dL_law_677 rfl (lv_at hl 3 rfl) ?_
  refine lv_iload_n hx hb dL_law_678 rfl (lv_at hl 0 rfl) ?_
  refine lv_iconst (v := 3) hx hb dL_law_679 (by decide) ?_
  refine lv_iadd hx hb dL_law_680 ?_
  refine ow_top 3 (by decide +kernel) ?_
  refine va_sld hx hb hX hbl hbA hS (in_lit (by decide +kernel)) dL_law_681 ?_
  refine ow_top (xs 3) rfl ?_
  have hPD := fr_left hP hD
  have hFc := fr_leftF hD hS hA
  refine va_calli (va_runV (As := [.int (xs 1), .int (xs 2), .int (xs 3)]) (rest := []) ⟨hx, hb, hml, hown, ht⟩ (x_deaf l G cy _ x h (xs 1) (xs 2) (xs 3)) (cwV 3 ht (gv k_485 k_486 k_487 k_183 k_484) rfl rfl rfl (by decide +kernel) ⟨Nat.le_of_ble_eq_true rfl, Nat.le_of_ble_eq_true rfl⟩) ⟨En.blind, va_recv hK hPD.1 (ci := 11) (q0 := 0) rfl rfl, fun U hU hW => ⟨rfl, En.of hU hW hPD.1 hK hPD.2 hN⟩⟩ rfl rfl hl.1 rfl (lv_room (Nat.le_of_ble_eq_true rfl)) dL_law_682 ⟨Nat.le_of_ble_eq_true rfl, Nat.le_of_ble_eq_true rfl⟩) hS (fun q _ h => hFc q h) hFc (fun r_1 u t H locs ht9 hvm hwr_1 hB hz1 hk1 hS => ?_)
  obtain ⟨hP, hD⟩ := fr_drop hP hD hk1
  refine lv_aload_n hx hb dL_law_685 rfl (lv_at hl 1 rfl) ?_
  refine lv_aload_n hx hb dL_law_686 rfl (lv_at hl 3 rfl) ?_
  refine lv_iload_n hx hb dL_law_687 rfl (lv_at hl 0 rfl) ?_
  refine lv_iconst (v := 1) hx hb dL_law_688 (by decide) ?_
  refine lv_iadd hx hb dL_law_689 ?_
  refine ow_top 1 (by decide +kernel) ?_
  refine va_sld hx hb hX hbl hbA hS (in_lit (by decide +kernel)) dL_law_690 ?_
  refine ow_top (xs 1) rfl ?_
  refine lv_aload_n hx hb dL_law_691 rfl (lv_at hl 3 rfl) ?_
  refine lv_iload_n hx hb dL_law_692 rfl (lv_at hl 0 rfl) ?_
  refine lv_iconst (v := 2) hx hb dL_law_693 (by decide) ?_
  refine lv_iadd hx hb dL_law_694 ?_
  refine ow_top 2 (by decide +kernel) ?_
  refine va_sld hx hb hX hbl hbA hS (in_lit (by decide +kernel)) dL_law_695 ?_
  refine ow_top (xs 2) rfl ?_
  refine lv_aload_n hx hb dL_law_696 rfl (lv_at hl 3 rfl) ?_
  refine lv_iload_n hx hb dL_law_697 rfl (lv_at hl 0 rfl) ?_
  refine lv_iconst (v := 3) hx hb dL_law_698 (by decide) ?_
  refine lv_iadd hx hb dL_law_699 ?_
  refine ow_top 3 (by decide +kernel) ?_
  refine va_sld hx hb hX hbl hbA hS (in_lit (by decide +kernel)) dL_law_700 ?_
  refine ow_top (xs 3) rfl ?_
  have hFc := fr_free hD hS hA
  refine va_calli (va_runV (As := [.int (xs 1), .int (xs 2), .int (xs 3)]) (rest := [.int r_1]) ⟨hx, hb, hml, hown, ht⟩ (m_deaf l G cy _ mo k9 f (xs 1) (xs 2) (xs 3)) (cwV 3 ht (gv k_489 k_490 k_491 k_314 k_488) rfl rfl rfl (by decide +kernel) ⟨Nat.le_of_ble_eq_true rfl, Nat.le_of_ble_eq_true rfl⟩) ⟨En.blind, va_recv hK hP (ci := 12) (q0 := 0) rfl rfl, fun U hU hW => ⟨rfl, En.of hU hW hP hK hD hN⟩⟩ rfl rfl hl.1 rfl (lv_room (Nat.le_of_ble_eq_true rfl)) dL_law_701 ⟨Nat.le_of_ble_eq_true rfl, Nat.le_of_ble_eq_true rfl⟩) hS (fun q _ h => hFc q h) hFc (fun r_2 u t H locs ht9 hvm hwr_2 hB hz1 hk1 hS => ?_)
  refine lv_icmp_eq (tgt := 1211) hx hb dL_law_704 (by decide) (fun _ => ?_) (fun c9 => absurd (hwr_1.1.trans hwr_2.1.symm) c9)
  refine lv_iinc (v := 6) (lv' := [(3, .int 6), (2, .ref mo), (1, .ref x), (0, .ref b)]) hx hb dL_law_1211 hl (k := 0) rfl (by decide) (by decide) rfl (fun ls hl => ?_)
  refine lv_goto (tgt := 18) hx hb dL_law_1214 (by decide) ?_
  refine lv_iload_n hx hb dL_law_18 rfl (lv_at hl 0 rfl) ?_
  refine lv_aload_n hx hb dL_law_19 rfl (lv_at hl 3 rfl) ?_
  refine va_slen hx hb hX hbl hbA hS dL_law_20 ?_
  refine ow_top 6 (by decide +kernel) ?_
  refine lv_bipush (v := 6) hx hb dL_law_21 (by decide) ?_
  refine lv_isub hx hb dL_law_23 ?_
  refine ow_top 0 (by decide +kernel) ?_
  refine lv_icmp_gt (tgt := 1217) hx hb dL_law_24 (by decide) (fun _ => ?_) (fun c9 => absurd (by decide) c9)
  refine lv_iconst (v := 1) hx hb dL_law_1217 (by decide) ?_
  refine va_forget (fun q hq => hS.2.2 q hq) ?_
  refine W.widen (k := 600000) (n := 7302250) (Nat.le_of_ble_eq_true rfl) (Nat.le_of_ble_eq_true rfl) ?_
  exact lw_ret hx hb hr hlocks dL_law_1218
set_option maxHeartbeats 4000000 in
set_option maxRecDepth 100000 in
theorem law_15 {p : Program} {e : Env} {s : State} {m : MethodId} {below : List Frame} {meth : Method} {c : Code} (l : Launch) {b : Nat} {xs : Nat → Int32} {G : va_G} {cy : Nat → ClassId} {x mo : Nat} {h k9 : Nat → Nat} {f : Nat → Nat → Int32} (hbm : ∀ k, k < 3 → f 2 k = -1) (hx : p.tables.exec = Jvm.exec) (hb : c.code = code) (hr : meth.sig.returnType = ret) (hml : c.maxLocals = 4) (hown : s.vm.findClass RL = some m.cls) (ht : ∀ w ∈ TBg, w.before #[Value.ref b] s = true) (hX : va_X b 6 xs s s.heap) (hbl : b < s.heap.size) (hlocks : meth.locks = false) (hK : va_K G vwCl (TY cy) s) (hN : NK s) {tsw : Nat} (hSW : SWt tsw (fun q : Nat => s.heap.size ≤ q) s) {H : Heap} {locs : List Loc} (hP : va_P G vwCl (WX cy x h ++ WM cy mo k9 f) H) (hD : va_D (fun q : Nat => s.heap.size ≤ q) (WX cy x h ++ WM cy mo k9 f)) (hS : va_S (fun q : Nat => s.heap.size ≤ q) s.heap H locs) {ls : Array Slot} (hl : lv_has ls 4 [(3, .int 0), (2, .ref mo), (1, .ref x), (0, .ref b)]) : W p l e room_1 s m #[Value.ref b] below meth c H locs 1000 40000 (lw_Z below #[Value.ref b] s) (F0 m 709 ls []) := by
  have hA : ∀ q : Nat, s.heap.size ≤ q → (fun q : Nat => s.heap.size ≤ q) q := fun _ h => h
  have hbA : ¬ (fun q : Nat => s.heap.size ≤ q) b := Nat.not_le.mpr hbl
  refine lv_aload_n hx hb dL_law_709 rfl (lv_at hl 2 rfl) ?_
  refine lv_aload_n hx hb dL_law_710 rfl (lv_at hl 3 rfl) ?_
  refine lv_iload_n hx hb dL_law_711 rfl (lv_at hl 0 rfl) ?_
  refine lv_iconst (v := 1) hx hb dL_law_712 (by decide) ?_
  refine lv_iadd hx hb dL_law_713 ?_
  refine ow_top 1 (by decide +kernel) ?_
  refine va_sld hx hb hX hbl hbA hS (in_lit (by decide +kernel)) dL_law_714 ?_
  refine ow_top (xs 1) rfl ?_
  refine lv_aload_n hx hb dL_law_715 rfl (lv_at hl 3 rfl) ?_
  refine lv_iload_n hx hb dL_law_716 rfl (lv_at hl 0 rfl) ?_
  refine lv_iconst (v := 2) hx hb dL_law_717 (by decide) ?_
  refine lv_iadd hx hb dL_law_718 ?_
  refine ow_top 2 (by decide +kernel) ?_
  refine va_sld hx hb hX hbl hbA hS (in_lit (by decide +kernel)) dL_law_719 ?_
  refine ow_top (xs 2) rfl ?_
  refine lv_if_eq (tgt := 727) hx hb dL_law_720 (by decide) (fun c_1 => ?_) (fun c_1 => ?_)
  · skip
    refine lv_iconst (v := 0) hx hb dL_law_727 (by decide) ?_
    have hPD := fr_left hP hD
    have hFc := fr_leftF hD hS hA
    refine va_calli (va_runV (As := [.int (xs 1), .int 0]) (rest := []) ⟨hx, hb, hml, hown, ht⟩ (x_least l G cy _ x h (xs 1) 0) (cwV 2 ht (gv k_493 k_494 k_495 k_183 k_492) rfl rfl rfl (by decide +kernel) ⟨Nat.le_of_ble_eq_true rfl, Nat.le_of_ble_eq_true rfl⟩) ⟨En.blind, va_recv hK hPD.1 (ci := 11) (q0 := 0) rfl rfl, fun U hU hW => ⟨rfl, En.of hU hW hPD.1 hK hPD.2 hN⟩⟩ rfl rfl hl.1 rfl (lv_room (Nat.le_of_ble_eq_true rfl)) dL_law_728 ⟨Nat.le_of_ble_eq_true rfl, Nat.le_of_ble_eq_true rfl⟩) hS (fun q _ h => hFc q h) hFc (fun r_2 u t H locs ht9 hvm hwr_2 hB hz1 hk1 hS => ?_)
    obtain ⟨hP, hD⟩ := fr_drop hP hD hk1
    refine lv_aload_n hx hb dL_law_731 rfl (lv_at hl 1 rfl) ?_
    refine lv_aload_n hx hb dL_law_732 rfl (lv_at hl 3 rfl) ?_
    refine lv_iload_n hx hb dL_law_733 rfl (lv_at hl 0 rfl) ?_
    refine lv_iconst (v := 1) hx hb dL_law_734 (by decide) ?_
    refine lv_iadd hx hb dL_law_735 ?_
    refine ow_top 1 (by decide +kernel) ?_
    refine va_sld hx hb hX hbl hbA hS (in_lit (by decide +kernel)) dL_law_736 ?_
    refine ow_top (xs 1) rfl ?_
    refine lv_aload_n hx hb dL_law_737 rfl (lv_at hl 3 rfl) ?_
    refine lv_iload_n hx hb dL_law_738 rfl (lv_at hl 0 rfl) ?_
    refine lv_iconst (v := 2) hx hb dL_law_739 (by decide) ?_
    refine lv_iadd hx hb dL_law_740 ?_
    refine ow_top 2 (by decide +kernel) ?_
    refine va_sld hx hb hX hbl hbA hS (in_lit (by decide +kernel)) dL_law_741 ?_
    refine ow_top (xs 2) rfl ?_
    refine lv_if_eq (tgt := 749) hx hb dL_law_742 (by decide) (fun c_3 => ?_) (fun c_3 => ?_)
    · skip
      refine lv_iconst (v := 0) hx hb dL_law_749 (by decide) ?_
      have hFc := fr_free hD hS hA
      refine va_calli (va_runV (As := [.int (xs 1), .int 0]) (rest := [.int r_2]) ⟨hx, hb, hml, hown, ht⟩ (m_least l G cy _ mo k9 f (xs 1) 0) (cwV 2 ht (gv k_497 k_498 k_499 k_314 k_496) rfl rfl rfl (by decide +kernel) ⟨Nat.le_of_ble_eq_true rfl, Nat.le_of_ble_eq_true rfl⟩) ⟨En.blind, va_recv hK hP (ci := 12) (q0 := 0) rfl rfl, fun U hU hW => ⟨rfl, En.of hU hW hP hK hD hN⟩⟩ rfl rfl hl.1 rfl (lv_room (Nat.le_of_ble_eq_true rfl)) dL_law_750 ⟨Nat.le_of_ble_eq_true rfl, Nat.le_of_ble_eq_true rfl⟩) hS (fun q _ h => hFc q h) hFc (fun r_4 u t H locs ht9 hvm hwr_4 hB hz1 hk1 hS => ?_)
      refine lv_icmp_eq (tgt := 1211) hx hb dL_law_753 (by decide) (fun _ => ?_) (fun c9 => absurd (hwr_2.1.trans hwr_4.1.symm) c9)
      refine lv_iinc (v := 6) (lv' := [(3, .int 6), (2, .ref mo), (1, .ref x), (0, .ref b)]) hx hb dL_law_1211 hl (k := 0) rfl (by decide) (by decide) rfl (fun ls hl => ?_)
      refine lv_goto (tgt := 18) hx hb dL_law_1214 (by decide) ?_
      refine lv_iload_n hx hb dL_law_18 rfl (lv_at hl 0 rfl) ?_
      refine lv_aload_n hx hb dL_law_19 rfl (lv_at hl 3 rfl) ?_
      refine va_slen hx hb hX hbl hbA hS dL_law_20 ?_
      refine ow_top 6 (by decide +kernel) ?_
      refine lv_bipush (v := 6) hx hb dL_law_21 (by decide) ?_
      refine lv_isub hx hb dL_law_23 ?_
      refine ow_top 0 (by decide +kernel) ?_
      refine lv_icmp_gt (tgt := 1217) hx hb dL_law_24 (by decide) (fun _ => ?_) (fun c9 => absurd (by decide) c9)
      refine lv_iconst (v := 1) hx hb dL_law_1217 (by decide) ?_
      refine va_forget (fun q hq => hS.2.2 q hq) ?_
      refine W.widen (k := 600000) (n := 7302250) (Nat.le_of_ble_eq_true rfl) (Nat.le_of_ble_eq_true rfl) ?_
      exact lw_ret hx hb hr hlocks dL_law_1218
    · exfalso
      have z0 : (0 : Int32).toInt = 0 := (by decide); (try simp only [ow_lt, ow_le, ow_eq, true_and, and_true] at c_1 c_3); omega
  · skip
    refine lv_iconst (v := 1) hx hb dL_law_723 (by decide) ?_
    refine lv_goto (tgt := 728) hx hb dL_law_724 (by decide) ?_
    have hPD := fr_left hP hD
    have hFc := fr_leftF hD hS hA
    refine va_calli (va_runV (As := [.int (xs 1), .int 1]) (rest := []) ⟨hx, hb, hml, hown, ht⟩ (x_least l G cy _ x h (xs 1) 1) (cwV 2 ht (gv k_493 k_494 k_495 k_183 k_492) rfl rfl rfl (by decide +kernel) ⟨Nat.le_of_ble_eq_true rfl, Nat.le_of_ble_eq_true rfl⟩) ⟨En.blind, va_recv hK hPD.1 (ci := 11) (q0 := 0) rfl rfl, fun U hU hW => ⟨rfl, En.of hU hW hPD.1 hK hPD.2 hN⟩⟩ rfl rfl hl.1 rfl (lv_room (Nat.le_of_ble_eq_true rfl)) dL_law_728 ⟨Nat.le_of_ble_eq_true rfl, Nat.le_of_ble_eq_true rfl⟩) hS (fun q _ h => hFc q h) hFc (fun r_5 u t H locs ht9 hvm hwr_5 hB hz1 hk1 hS => ?_)
    obtain ⟨hP, hD⟩ := fr_drop hP hD hk1
    refine lv_aload_n hx hb dL_law_731 rfl (lv_at hl 1 rfl) ?_
    refine lv_aload_n hx hb dL_law_732 rfl (lv_at hl 3 rfl) ?_
    refine lv_iload_n hx hb dL_law_733 rfl (lv_at hl 0 rfl) ?_
    refine lv_iconst (v := 1) hx hb dL_law_734 (by decide) ?_
    refine lv_iadd hx hb dL_law_735 ?_
    refine ow_top 1 (by decide +kernel) ?_
    refine va_sld hx hb hX hbl hbA hS (in_lit (by decide +kernel)) dL_law_736 ?_
    refine ow_top (xs 1) rfl ?_
    refine lv_aload_n hx hb dL_law_737 rfl (lv_at hl 3 rfl) ?_
    refine lv_iload_n hx hb dL_law_738 rfl (lv_at hl 0 rfl) ?_
    refine lv_iconst (v := 2) hx hb dL_law_739 (by decide) ?_
    refine lv_iadd hx hb dL_law_740 ?_
    refine ow_top 2 (by decide +kernel) ?_
    refine va_sld hx hb hX hbl hbA hS (in_lit (by decide +kernel)) dL_law_741 ?_
    refine ow_top (xs 2) rfl ?_
    refine lv_if_eq (tgt := 749) hx hb dL_law_742 (by decide) (fun c_6 => ?_) (fun c_6 => ?_)
    · exfalso
      have z0 : (0 : Int32).toInt = 0 := (by decide); (try simp only [ow_lt, ow_le, ow_eq, true_and, and_true] at c_1 c_6); omega
    · skip
      refine lv_iconst (v := 1) hx hb dL_law_745 (by decide) ?_
      refine lv_goto (tgt := 750) hx hb dL_law_746 (by decide) ?_
      have hFc := fr_free hD hS hA
      refine va_calli (va_runV (As := [.int (xs 1), .int 1]) (rest := [.int r_5]) ⟨hx, hb, hml, hown, ht⟩ (m_least l G cy _ mo k9 f (xs 1) 1) (cwV 2 ht (gv k_497 k_498 k_499 k_314 k_496) rfl rfl rfl (by decide +kernel) ⟨Nat.le_of_ble_eq_true rfl, Nat.le_of_ble_eq_true rfl⟩) ⟨En.blind, va_recv hK hP (ci := 12) (q0 := 0) rfl rfl, fun U hU hW => ⟨rfl, En.of hU hW hP hK hD hN⟩⟩ rfl rfl hl.1 rfl (lv_room (Nat.le_of_ble_eq_true rfl)) dL_law_750 ⟨Nat.le_of_ble_eq_true rfl, Nat.le_of_ble_eq_true rfl⟩) hS (fun q _ h => hFc q h) hFc (fun r_7 u t H locs ht9 hvm hwr_7 hB hz1 hk1 hS => ?_)
      refine lv_icmp_eq (tgt := 1211) hx hb dL_law_753 (by decide) (fun _ => ?_) (fun c9 => absurd (hwr_5.1.trans hwr_7.1.symm) c9)
      refine lv_iinc (v := 6) (lv' := [(3, .int 6), (2, .ref mo), (1, .ref x), (0, .ref b)]) hx hb dL_law_1211 hl (k := 0) rfl (by decide) (by decide) rfl (fun ls hl => ?_)
      refine lv_goto (tgt := 18) hx hb dL_law_1214 (by decide) ?_
      refine lv_iload_n hx hb dL_law_18 rfl (lv_at hl 0 rfl) ?_
      refine lv_aload_n hx hb dL_law_19 rfl (lv_at hl 3 rfl) ?_
      refine va_slen hx hb hX hbl hbA hS dL_law_20 ?_
      refine ow_top 6 (by decide +kernel) ?_
      refine lv_bipush (v := 6) hx hb dL_law_21 (by decide) ?_
      refine lv_isub hx hb dL_law_23 ?_
      refine ow_top 0 (by decide +kernel) ?_
      refine lv_icmp_gt (tgt := 1217) hx hb dL_law_24 (by decide) (fun _ => ?_) (fun c9 => absurd (by decide) c9)
      refine lv_iconst (v := 1) hx hb dL_law_1217 (by decide) ?_
      refine va_forget (fun q hq => hS.2.2 q hq) ?_
      refine W.widen (k := 600000) (n := 7302250) (Nat.le_of_ble_eq_true rfl) (Nat.le_of_ble_eq_true rfl) ?_
      exact lw_ret hx hb hr hlocks dL_law_1218
set_option maxHeartbeats 4000000 in
set_option maxRecDepth 100000 in
theorem law_16 {p : Program} {e : Env} {s : State} {m : MethodId} {below : List Frame} {meth : Method} {c : Code} (l : Launch) {b : Nat} {xs : Nat → Int32} {G : va_G} {cy : Nat → ClassId} {x mo : Nat} {h k9 : Nat → Nat} {f : Nat → Nat → Int32} (hbm : ∀ k, k < 3 → f 2 k = -1) (hx : p.tables.exec = Jvm.exec) (hb : c.code = code) (hr : meth.sig.returnType = ret) (hml : c.maxLocals = 4) (hown : s.vm.findClass RL = some m.cls) (ht : ∀ w ∈ TBg, w.before #[Value.ref b] s = true) (hX : va_X b 6 xs s s.heap) (hbl : b < s.heap.size) (hlocks : meth.locks = false) (hK : va_K G vwCl (TY cy) s) (hN : NK s) {tsw : Nat} (hSW : SWt tsw (fun q : Nat => s.heap.size ≤ q) s) {H : Heap} {locs : List Loc} (hP : va_P G vwCl (WX cy x h ++ WM cy mo k9 f) H) (hD : va_D (fun q : Nat => s.heap.size ≤ q) (WX cy x h ++ WM cy mo k9 f)) (hS : va_S (fun q : Nat => s.heap.size ≤ q) s.heap H locs) {ls : Array Slot} (hl : lv_has ls 4 [(3, .int 0), (2, .ref mo), (1, .ref x), (0, .ref b)]) : W p l e room_1 s m #[Value.ref b] below meth c H locs 1000 40000 (lw_Z below #[Value.ref b] s) (F0 m 758 ls []) := by
  have hA : ∀ q : Nat, s.heap.size ≤ q → (fun q : Nat => s.heap.size ≤ q) q := fun _ h => h
  have hbA : ¬ (fun q : Nat => s.heap.size ≤ q) b := Nat.not_le.mpr hbl
  refine lv_aload_n hx hb dL_law_758 rfl (lv_at hl 2 rfl) ?_
  refine lv_aload_n hx hb dL_law_759 rfl (lv_at hl 3 rfl) ?_
  refine lv_iload_n hx hb dL_law_760 rfl (lv_at hl 0 rfl) ?_
  refine lv_iconst (v := 1) hx hb dL_law_761 (by decide) ?_
  refine lv_iadd hx hb dL_law_762 ?_
  refine ow_top 1 (by decide +kernel) ?_
  refine va_sld hx hb hX hbl hbA hS (in_lit (by decide +kernel)) dL_law_763 ?_
  refine ow_top (xs 1) rfl ?_
  refine lv_aload_n hx hb dL_law_764 rfl (lv_at hl 3 rfl) ?_
  refine lv_iload_n hx hb dL_law_765 rfl (lv_at hl 0 rfl) ?_
  refine lv_iconst (v := 2) hx hb dL_law_766 (by decide) ?_
  refine lv_iadd hx hb dL_law_767 ?_
  refine ow_top 2 (by decide +kernel) ?_
  refine va_sld hx hb hX hbl hbA hS (in_lit (by decide +kernel)) dL_law_768 ?_
  refine ow_top (xs 2) rfl ?_
  have hPD := fr_left hP hD
  have hFc := fr_leftF hD hS hA
  refine va_calli (va_runV (As := [.int (xs 1), .int (xs 2)]) (rest := []) ⟨hx, hb, hml, hown, ht⟩ (x_sing l G cy _ x h (xs 1) (xs 2)) (cwV 2 ht (gv k_501 k_502 k_503 k_183 k_500) rfl rfl rfl (by decide +kernel) ⟨Nat.le_of_ble_eq_true rfl, Nat.le_of_ble_eq_true rfl⟩) ⟨En.blind, va_recv hK hPD.1 (ci := 11) (q0 := 0) rfl rfl, fun U hU hW => ⟨rfl, En.of hU hW hPD.1 hK hPD.2 hN⟩⟩ rfl rfl hl.1 rfl (lv_room (Nat.le_of_ble_eq_true rfl)) dL_law_769 ⟨Nat.le_of_ble_eq_true rfl, Nat.le_of_ble_eq_true rfl⟩) hS (fun q _ h => hFc q h) hFc (fun r_1 u t H locs ht9 hvm hwr_1 hB hz1 hk1 hS => ?_)
  obtain ⟨hP, hD⟩ := fr_drop hP hD hk1
  refine lv_aload_n hx hb dL_law_772 rfl (lv_at hl 1 rfl) ?_
  refine lv_aload_n hx hb dL_law_773 rfl (lv_at hl 3 rfl) ?_
  refine lv_iload_n hx hb dL_law_774 rfl (lv_at hl 0 rfl) ?_
  refine lv_iconst (v := 1) hx hb dL_law_775 (by decide) ?_
  refine lv_iadd hx hb dL_law_776 ?_
  refine ow_top 1 (by decide +kernel) ?_
  refine va_sld hx hb hX hbl hbA hS (in_lit (by decide +kernel)) dL_law_777 ?_
  refine ow_top (xs 1) rfl ?_
  refine lv_aload_n hx hb dL_law_778 rfl (lv_at hl 3 rfl) ?_
  refine lv_iload_n hx hb dL_law_779 rfl (lv_at hl 0 rfl) ?_
  refine lv_iconst (v := 2) hx hb dL_law_780 (by decide) ?_
  refine lv_iadd hx hb dL_law_781 ?_
  refine ow_top 2 (by decide +kernel) ?_
  refine va_sld hx hb hX hbl hbA hS (in_lit (by decide +kernel)) dL_law_782 ?_
  refine ow_top (xs 2) rfl ?_
  have hFc := fr_free hD hS hA
  refine va_calli (va_runV (As := [.int (xs 1), .int (xs 2)]) (rest := [.int r_1]) ⟨hx, hb, hml, hown, ht⟩ (m_sing l G cy _ mo k9 f (xs 1) (xs 2)) (cwV 2 ht (gv k_505 k_506 k_507 k_314 k_504) rfl rfl rfl (by decide +kernel) ⟨Nat.le_of_ble_eq_true rfl, Nat.le_of_ble_eq_true rfl⟩) ⟨En.blind, va_recv hK hP (ci := 12) (q0 := 0) rfl rfl, fun U hU hW => ⟨rfl, En.of hU hW hP hK hD hN⟩⟩ rfl rfl hl.1 rfl (lv_room (Nat.le_of_ble_eq_true rfl)) dL_law_783 ⟨Nat.le_of_ble_eq_true rfl, Nat.le_of_ble_eq_true rfl⟩) hS (fun q _ h => hFc q h) hFc (fun r_2 u t H locs ht9 hvm hwr_2 hB hz1 hk1 hS => ?_)
  refine lv_icmp_eq (tgt := 1211) hx hb dL_law_786 (by decide) (fun _ => ?_) (fun c9 => absurd (hwr_1.1.trans hwr_2.1.symm) c9)
  refine lv_iinc (v := 6) (lv' := [(3, .int 6), (2, .ref mo), (1, .ref x), (0, .ref b)]) hx hb dL_law_1211 hl (k := 0) rfl (by decide) (by decide) rfl (fun ls hl => ?_)
  refine lv_goto (tgt := 18) hx hb dL_law_1214 (by decide) ?_
  refine lv_iload_n hx hb dL_law_18 rfl (lv_at hl 0 rfl) ?_
  refine lv_aload_n hx hb dL_law_19 rfl (lv_at hl 3 rfl) ?_
  refine va_slen hx hb hX hbl hbA hS dL_law_20 ?_
  refine ow_top 6 (by decide +kernel) ?_
  refine lv_bipush (v := 6) hx hb dL_law_21 (by decide) ?_
  refine lv_isub hx hb dL_law_23 ?_
  refine ow_top 0 (by decide +kernel) ?_
  refine lv_icmp_gt (tgt := 1217) hx hb dL_law_24 (by decide) (fun _ => ?_) (fun c9 => absurd (by decide) c9)
  refine lv_iconst (v := 1) hx hb dL_law_1217 (by decide) ?_
  refine va_forget (fun q hq => hS.2.2 q hq) ?_
  refine W.widen (k := 600000) (n := 7302250) (Nat.le_of_ble_eq_true rfl) (Nat.le_of_ble_eq_true rfl) ?_
  exact lw_ret hx hb hr hlocks dL_law_1218
set_option maxHeartbeats 4000000 in
set_option maxRecDepth 100000 in
theorem law_17 {p : Program} {e : Env} {s : State} {m : MethodId} {below : List Frame} {meth : Method} {c : Code} (l : Launch) {b : Nat} {xs : Nat → Int32} {G : va_G} {cy : Nat → ClassId} {x mo : Nat} {h k9 : Nat → Nat} {f : Nat → Nat → Int32} (hbm : ∀ k, k < 3 → f 2 k = -1) (hx : p.tables.exec = Jvm.exec) (hb : c.code = code) (hr : meth.sig.returnType = ret) (hml : c.maxLocals = 4) (hown : s.vm.findClass RL = some m.cls) (ht : ∀ w ∈ TBg, w.before #[Value.ref b] s = true) (hX : va_X b 6 xs s s.heap) (hbl : b < s.heap.size) (hlocks : meth.locks = false) (hK : va_K G vwCl (TY cy) s) (hN : NK s) {tsw : Nat} (hSW : SWt tsw (fun q : Nat => s.heap.size ≤ q) s) {H : Heap} {locs : List Loc} (hP : va_P G vwCl (WX cy x h ++ WM cy mo k9 f) H) (hD : va_D (fun q : Nat => s.heap.size ≤ q) (WX cy x h ++ WM cy mo k9 f)) (hS : va_S (fun q : Nat => s.heap.size ≤ q) s.heap H locs) {ls : Array Slot} (hl : lv_has ls 4 [(3, .int 0), (2, .ref mo), (1, .ref x), (0, .ref b)]) : W p l e room_1 s m #[Value.ref b] below meth c H locs 1000 40000 (lw_Z below #[Value.ref b] s) (F0 m 791 ls []) := by
  have hA : ∀ q : Nat, s.heap.size ≤ q → (fun q : Nat => s.heap.size ≤ q) q := fun _ h => h
  have hbA : ¬ (fun q : Nat => s.heap.size ≤ q) b := Nat.not_le.mpr hbl
  refine lv_aload_n hx hb dL_law_791 rfl (lv_at hl 2 rfl) ?_
  refine lv_aload_n hx hb dL_law_792 rfl (lv_at hl 3 rfl) ?_
  refine lv_iload_n hx hb dL_law_793 rfl (lv_at hl 0 rfl) ?_
  refine lv_iconst (v := 1) hx hb dL_law_794 (by decide) ?_
  refine lv_iadd hx hb dL_law_795 ?_
  refine ow_top 1 (by decide +kernel) ?_
  refine va_sld hx hb hX hbl hbA hS (in_lit (by decide +kernel)) dL_law_796 ?_
  refine ow_top (xs 1) rfl ?_
  refine lv_aload_n hx hb dL_law_797 rfl (lv_at hl 3 rfl) ?_
  refine lv_iload_n hx hb dL_law_798 rfl (lv_at hl 0 rfl) ?_
  refine lv_iconst (v := 2) hx hb dL_law_799 (by decide) ?_
  refine lv_iadd hx hb dL_law_800 ?_
  refine ow_top 2 (by decide +kernel) ?_
  refine va_sld hx hb hX hbl hbA hS (in_lit (by decide +kernel)) dL_law_801 ?_
  refine ow_top (xs 2) rfl ?_
  have hPD := fr_left hP hD
  have hFc := fr_leftF hD hS hA
  refine va_calli (va_runV (As := [.int (xs 1), .int (xs 2)]) (rest := []) ⟨hx, hb, hml, hown, ht⟩ (x_song l G cy _ x h (xs 1) (xs 2)) (cwV 2 ht (gv k_509 k_510 k_511 k_183 k_508) rfl rfl rfl (by decide +kernel) ⟨Nat.le_of_ble_eq_true rfl, Nat.le_of_ble_eq_true rfl⟩) ⟨En.blind, va_recv hK hPD.1 (ci := 11) (q0 := 0) rfl rfl, fun U hU hW => ⟨rfl, En.of hU hW hPD.1 hK hPD.2 hN⟩⟩ rfl rfl hl.1 rfl (lv_room (Nat.le_of_ble_eq_true rfl)) dL_law_802 ⟨Nat.le_of_ble_eq_true rfl, Nat.le_of_ble_eq_true rfl⟩) hS (fun q _ h => hFc q h) hFc (fun r_1 u t H locs ht9 hvm hwr_1 hB hz1 hk1 hS => ?_)
  obtain ⟨hP, hD⟩ := fr_drop hP hD hk1
  refine lv_aload_n hx hb dL_law_805 rfl (lv_at hl 1 rfl) ?_
  refine lv_aload_n hx hb dL_law_806 rfl (lv_at hl 3 rfl) ?_
  refine lv_iload_n hx hb dL_law_807 rfl (lv_at hl 0 rfl) ?_
  refine lv_iconst (v := 1) hx hb dL_law_808 (by decide) ?_
  refine lv_iadd hx hb dL_law_809 ?_
  refine ow_top 1 (by decide +kernel) ?_
  refine va_sld hx hb hX hbl hbA hS (in_lit (by decide +kernel)) dL_law_810 ?_
  refine ow_top (xs 1) rfl ?_
  refine lv_aload_n hx hb dL_law_811 rfl (lv_at hl 3 rfl) ?_
  refine lv_iload_n hx hb dL_law_812 rfl (lv_at hl 0 rfl) ?_
  refine lv_iconst (v := 2) hx hb dL_law_813 (by decide) ?_
  refine lv_iadd hx hb dL_law_814 ?_
  refine ow_top 2 (by decide +kernel) ?_
  refine va_sld hx hb hX hbl hbA hS (in_lit (by decide +kernel)) dL_law_815 ?_
  refine ow_top (xs 2) rfl ?_
  have hFc := fr_free hD hS hA
  refine va_calli (va_runV (As := [.int (xs 1), .int (xs 2)]) (rest := [.int r_1]) ⟨hx, hb, hml, hown, ht⟩ (m_song l G cy _ mo k9 f (xs 1) (xs 2)) (cwV 2 ht (gv k_513 k_514 k_515 k_314 k_512) rfl rfl rfl (by decide +kernel) ⟨Nat.le_of_ble_eq_true rfl, Nat.le_of_ble_eq_true rfl⟩) ⟨En.blind, va_recv hK hP (ci := 12) (q0 := 0) rfl rfl, fun U hU hW => ⟨rfl, En.of hU hW hP hK hD hN⟩⟩ rfl rfl hl.1 rfl (lv_room (Nat.le_of_ble_eq_true rfl)) dL_law_816 ⟨Nat.le_of_ble_eq_true rfl, Nat.le_of_ble_eq_true rfl⟩) hS (fun q _ h => hFc q h) hFc (fun r_2 u t H locs ht9 hvm hwr_2 hB hz1 hk1 hS => ?_)
  refine lv_icmp_eq (tgt := 1211) hx hb dL_law_819 (by decide) (fun _ => ?_) (fun c9 => absurd (hwr_1.1.trans hwr_2.1.symm) c9)
  refine lv_iinc (v := 6) (lv' := [(3, .int 6), (2, .ref mo), (1, .ref x), (0, .ref b)]) hx hb dL_law_1211 hl (k := 0) rfl (by decide) (by decide) rfl (fun ls hl => ?_)
  refine lv_goto (tgt := 18) hx hb dL_law_1214 (by decide) ?_
  refine lv_iload_n hx hb dL_law_18 rfl (lv_at hl 0 rfl) ?_
  refine lv_aload_n hx hb dL_law_19 rfl (lv_at hl 3 rfl) ?_
  refine va_slen hx hb hX hbl hbA hS dL_law_20 ?_
  refine ow_top 6 (by decide +kernel) ?_
  refine lv_bipush (v := 6) hx hb dL_law_21 (by decide) ?_
  refine lv_isub hx hb dL_law_23 ?_
  refine ow_top 0 (by decide +kernel) ?_
  refine lv_icmp_gt (tgt := 1217) hx hb dL_law_24 (by decide) (fun _ => ?_) (fun c9 => absurd (by decide) c9)
  refine lv_iconst (v := 1) hx hb dL_law_1217 (by decide) ?_
  refine va_forget (fun q hq => hS.2.2 q hq) ?_
  refine W.widen (k := 600000) (n := 7302250) (Nat.le_of_ble_eq_true rfl) (Nat.le_of_ble_eq_true rfl) ?_
  exact lw_ret hx hb hr hlocks dL_law_1218
set_option maxHeartbeats 4000000 in
set_option maxRecDepth 100000 in
theorem law_18 {p : Program} {e : Env} {s : State} {m : MethodId} {below : List Frame} {meth : Method} {c : Code} (l : Launch) {b : Nat} {xs : Nat → Int32} {G : va_G} {cy : Nat → ClassId} {x mo : Nat} {h k9 : Nat → Nat} {f : Nat → Nat → Int32} (hbm : ∀ k, k < 3 → f 2 k = -1) (hx : p.tables.exec = Jvm.exec) (hb : c.code = code) (hr : meth.sig.returnType = ret) (hml : c.maxLocals = 4) (hown : s.vm.findClass RL = some m.cls) (ht : ∀ w ∈ TBg, w.before #[Value.ref b] s = true) (hX : va_X b 6 xs s s.heap) (hbl : b < s.heap.size) (hlocks : meth.locks = false) (hK : va_K G vwCl (TY cy) s) (hN : NK s) {tsw : Nat} (hSW : SWt tsw (fun q : Nat => s.heap.size ≤ q) s) {H : Heap} {locs : List Loc} (hP : va_P G vwCl (WX cy x h ++ WM cy mo k9 f) H) (hD : va_D (fun q : Nat => s.heap.size ≤ q) (WX cy x h ++ WM cy mo k9 f)) (hS : va_S (fun q : Nat => s.heap.size ≤ q) s.heap H locs) {ls : Array Slot} (hl : lv_has ls 4 [(3, .int 0), (2, .ref mo), (1, .ref x), (0, .ref b)]) : W p l e room_1 s m #[Value.ref b] below meth c H locs 1000 40000 (lw_Z below #[Value.ref b] s) (F0 m 824 ls []) := by
  have hA : ∀ q : Nat, s.heap.size ≤ q → (fun q : Nat => s.heap.size ≤ q) q := fun _ h => h
  have hbA : ¬ (fun q : Nat => s.heap.size ≤ q) b := Nat.not_le.mpr hbl
  refine lv_aload_n hx hb dL_law_824 rfl (lv_at hl 2 rfl) ?_
  have hPD := fr_left hP hD
  have hFc := fr_leftF hD hS hA
  refine va_calli (va_runV (As := []) (rest := []) ⟨hx, hb, hml, hown, ht⟩ (x_silence l G cy _ x h) (cwV 0 ht (gv k_517 k_518 k_519 k_183 k_516) rfl rfl rfl (by decide +kernel) ⟨Nat.le_of_ble_eq_true rfl, Nat.le_of_ble_eq_true rfl⟩) ⟨En.blind, va_recv hK hPD.1 (ci := 11) (q0 := 0) rfl rfl, fun U hU hW => ⟨rfl, En.of hU hW hPD.1 hK hPD.2 hN⟩⟩ rfl rfl hl.1 rfl (lv_room (Nat.le_of_ble_eq_true rfl)) dL_law_825 ⟨Nat.le_of_ble_eq_true rfl, Nat.le_of_ble_eq_true rfl⟩) hS (fun q _ h => hFc q h) hFc (fun r_1 u t H locs ht9 hvm hwr_1 hB hz1 hk1 hS => ?_)
  obtain ⟨hP, hD⟩ := fr_drop hP hD hk1
  refine lv_aload_n hx hb dL_law_828 rfl (lv_at hl 1 rfl) ?_
  have hFc := fr_free hD hS hA
  refine va_calli (va_runV (As := []) (rest := [.int r_1]) ⟨hx, hb, hml, hown, ht⟩ (m_silence l G cy _ mo k9 f) (cwV 0 ht (gv k_521 k_522 k_523 k_314 k_520) rfl rfl rfl (by decide +kernel) ⟨Nat.le_of_ble_eq_true rfl, Nat.le_of_ble_eq_true rfl⟩) ⟨En.blind, va_recv hK hP (ci := 12) (q0 := 0) rfl rfl, fun U hU hW => ⟨rfl, En.of hU hW hP hK hD hN⟩⟩ rfl rfl hl.1 rfl (lv_room (Nat.le_of_ble_eq_true rfl)) dL_law_829 ⟨Nat.le_of_ble_eq_true rfl, Nat.le_of_ble_eq_true rfl⟩) hS (fun q _ h => hFc q h) hFc (fun r_2 u t H locs ht9 hvm hwr_2 hB hz1 hk1 hS => ?_)
  refine lv_icmp_eq (tgt := 1211) hx hb dL_law_832 (by decide) (fun _ => ?_) (fun c9 => absurd (hwr_1.1.trans hwr_2.1.symm) c9)
  refine lv_iinc (v := 6) (lv' := [(3, .int 6), (2, .ref mo), (1, .ref x), (0, .ref b)]) hx hb dL_law_1211 hl (k := 0) rfl (by decide) (by decide) rfl (fun ls hl => ?_)
  refine lv_goto (tgt := 18) hx hb dL_law_1214 (by decide) ?_
  refine lv_iload_n hx hb dL_law_18 rfl (lv_at hl 0 rfl) ?_
  refine lv_aload_n hx hb dL_law_19 rfl (lv_at hl 3 rfl) ?_
  refine va_slen hx hb hX hbl hbA hS dL_law_20 ?_
  refine ow_top 6 (by decide +kernel) ?_
  refine lv_bipush (v := 6) hx hb dL_law_21 (by decide) ?_
  refine lv_isub hx hb dL_law_23 ?_
  refine ow_top 0 (by decide +kernel) ?_
  refine lv_icmp_gt (tgt := 1217) hx hb dL_law_24 (by decide) (fun _ => ?_) (fun c9 => absurd (by decide) c9)
  refine lv_iconst (v := 1) hx hb dL_law_1217 (by decide) ?_
  refine va_forget (fun q hq => hS.2.2 q hq) ?_
  refine W.widen (k := 600000) (n := 7302250) (Nat.le_of_ble_eq_true rfl) (Nat.le_of_ble_eq_true rfl) ?_
  exact lw_ret hx hb hr hlocks dL_law_1218
set_option maxHeartbeats 4000000 in
set_option maxRecDepth 100000 in
theorem law_19 {p : Program} {e : Env} {s : State} {m : MethodId} {below : List Frame} {meth : Method} {c : Code} (l : Launch) {b : Nat} {xs : Nat → Int32} {G : va_G} {cy : Nat → ClassId} {x mo : Nat} {h k9 : Nat → Nat} {f : Nat → Nat → Int32} (hbm : ∀ k, k < 3 → f 2 k = -1) (hx : p.tables.exec = Jvm.exec) (hb : c.code = code) (hr : meth.sig.returnType = ret) (hml : c.maxLocals = 4) (hown : s.vm.findClass RL = some m.cls) (ht : ∀ w ∈ TBg, w.before #[Value.ref b] s = true) (hX : va_X b 6 xs s s.heap) (hbl : b < s.heap.size) (hlocks : meth.locks = false) (hK : va_K G vwCl (TY cy) s) (hN : NK s) {tsw : Nat} (hSW : SWt tsw (fun q : Nat => s.heap.size ≤ q) s) {H : Heap} {locs : List Loc} (hP : va_P G vwCl (WX cy x h ++ WM cy mo k9 f) H) (hD : va_D (fun q : Nat => s.heap.size ≤ q) (WX cy x h ++ WM cy mo k9 f)) (hS : va_S (fun q : Nat => s.heap.size ≤ q) s.heap H locs) {ls : Array Slot} (hl : lv_has ls 4 [(3, .int 0), (2, .ref mo), (1, .ref x), (0, .ref b)]) : W p l e room_1 s m #[Value.ref b] below meth c H locs 1000 40000 (lw_Z below #[Value.ref b] s) (F0 m 837 ls []) := by
  have hA : ∀ q : Nat, s.heap.size ≤ q → (fun q : Nat => s.heap.size ≤ q) q := fun _ h => h
  have hbA : ¬ (fun q : Nat => s.heap.size ≤ q) b := Nat.not_le.mpr hbl
  refine lv_aload_n hx hb dL_law_837 rfl (lv_at hl 2 rfl) ?_
  refine lv_aload_n hx hb dL_law_838 rfl (lv_at hl 3 rfl) ?_
  refine lv_iload_n hx hb dL_law_839 rfl (lv_at hl 0 rfl) ?_
  refine lv_iconst (v := 1) hx hb dL_law_840 (by decide) ?_
  refine lv_iadd hx hb dL_law_841 ?_
  refine ow_top 1 (by decide +kernel) ?_
  refine va_sld hx hb hX hbl hbA hS (in_lit (by decide +kernel)) dL_law_842 ?_
  refine ow_top (xs 1) rfl ?_
  have hPD := fr_left hP hD
  have hFc := fr_leftF hD hS hA
  refine va_calli (va_runV (As := [.int (xs 1)]) (rest := []) ⟨hx, hb, hml, hown, ht⟩ (x_shut l G cy _ x h (xs 1)) (cwV 1 ht (gv k_525 k_526 k_527 k_183 k_524) rfl rfl rfl (by decide +kernel) ⟨Nat.le_of_ble_eq_true rfl, Nat.le_of_ble_eq_true rfl⟩) ⟨En.blind, va_recv hK hPD.1 (ci := 11) (q0 := 0) rfl rfl, fun U hU hW => ⟨rfl, En.of hU hW hPD.1 hK hPD.2 hN⟩⟩ rfl rfl hl.1 rfl (lv_room (Nat.le_of_ble_eq_true rfl)) dL_law_843 ⟨Nat.le_of_ble_eq_true rfl, Nat.le_of_ble_eq_true rfl⟩) hS (fun q _ h => hFc q h) hFc (fun r_1 u t H locs ht9 hvm hwr_1 hB hz1 hk1 hS => ?_)
  obtain ⟨hP, hD⟩ := fr_drop hP hD hk1
  refine lv_aload_n hx hb dL_law_846 rfl (lv_at hl 1 rfl) ?_
  refine lv_aload_n hx hb dL_law_847 rfl (lv_at hl 3 rfl) ?_
  refine lv_iload_n hx hb dL_law_848 rfl (lv_at hl 0 rfl) ?_
  refine lv_iconst (v := 1) hx hb dL_law_849 (by decide) ?_
  refine lv_iadd hx hb dL_law_850 ?_
  refine ow_top 1 (by decide +kernel) ?_
  refine va_sld hx hb hX hbl hbA hS (in_lit (by decide +kernel)) dL_law_851 ?_
  refine ow_top (xs 1) rfl ?_
  have hFc := fr_free hD hS hA
  refine va_calli (va_runV (As := [.int (xs 1)]) (rest := [.int r_1]) ⟨hx, hb, hml, hown, ht⟩ (m_shut l G cy _ mo k9 f (xs 1)) (cwV 1 ht (gv k_529 k_530 k_531 k_314 k_528) rfl rfl rfl (by decide +kernel) ⟨Nat.le_of_ble_eq_true rfl, Nat.le_of_ble_eq_true rfl⟩) ⟨En.blind, va_recv hK hP (ci := 12) (q0 := 0) rfl rfl, fun U hU hW => ⟨rfl, En.of hU hW hP hK hD hN⟩⟩ rfl rfl hl.1 rfl (lv_room (Nat.le_of_ble_eq_true rfl)) dL_law_852 ⟨Nat.le_of_ble_eq_true rfl, Nat.le_of_ble_eq_true rfl⟩) hS (fun q _ h => hFc q h) hFc (fun r_2 u t H locs ht9 hvm hwr_2 hB hz1 hk1 hS => ?_)
  refine lv_icmp_eq (tgt := 1211) hx hb dL_law_855 (by decide) (fun _ => ?_) (fun c9 => absurd (hwr_1.1.trans hwr_2.1.symm) c9)
  refine lv_iinc (v := 6) (lv' := [(3, .int 6), (2, .ref mo), (1, .ref x), (0, .ref b)]) hx hb dL_law_1211 hl (k := 0) rfl (by decide) (by decide) rfl (fun ls hl => ?_)
  refine lv_goto (tgt := 18) hx hb dL_law_1214 (by decide) ?_
  refine lv_iload_n hx hb dL_law_18 rfl (lv_at hl 0 rfl) ?_
  refine lv_aload_n hx hb dL_law_19 rfl (lv_at hl 3 rfl) ?_
  refine va_slen hx hb hX hbl hbA hS dL_law_20 ?_
  refine ow_top 6 (by decide +kernel) ?_
  refine lv_bipush (v := 6) hx hb dL_law_21 (by decide) ?_
  refine lv_isub hx hb dL_law_23 ?_
  refine ow_top 0 (by decide +kernel) ?_
  refine lv_icmp_gt (tgt := 1217) hx hb dL_law_24 (by decide) (fun _ => ?_) (fun c9 => absurd (by decide) c9)
  refine lv_iconst (v := 1) hx hb dL_law_1217 (by decide) ?_
  refine va_forget (fun q hq => hS.2.2 q hq) ?_
  refine W.widen (k := 600000) (n := 7302250) (Nat.le_of_ble_eq_true rfl) (Nat.le_of_ble_eq_true rfl) ?_
  exact lw_ret hx hb hr hlocks dL_law_1218
set_option maxHeartbeats 4000000 in
set_option maxRecDepth 100000 in
theorem law_20 {p : Program} {e : Env} {s : State} {m : MethodId} {below : List Frame} {meth : Method} {c : Code} (l : Launch) {b : Nat} {xs : Nat → Int32} {G : va_G} {cy : Nat → ClassId} {x mo : Nat} {h k9 : Nat → Nat} {f : Nat → Nat → Int32} (hbm : ∀ k, k < 3 → f 2 k = -1) (hx : p.tables.exec = Jvm.exec) (hb : c.code = code) (hr : meth.sig.returnType = ret) (hml : c.maxLocals = 4) (hown : s.vm.findClass RL = some m.cls) (ht : ∀ w ∈ TBg, w.before #[Value.ref b] s = true) (hX : va_X b 6 xs s s.heap) (hbl : b < s.heap.size) (hlocks : meth.locks = false) (hK : va_K G vwCl (TY cy) s) (hN : NK s) {tsw : Nat} (hSW : SWt tsw (fun q : Nat => s.heap.size ≤ q) s) {H : Heap} {locs : List Loc} (hP : va_P G vwCl (WX cy x h ++ WM cy mo k9 f) H) (hD : va_D (fun q : Nat => s.heap.size ≤ q) (WX cy x h ++ WM cy mo k9 f)) (hS : va_S (fun q : Nat => s.heap.size ≤ q) s.heap H locs) {ls : Array Slot} (hl : lv_has ls 4 [(3, .int 0), (2, .ref mo), (1, .ref x), (0, .ref b)]) : W p l e room_1 s m #[Value.ref b] below meth c H locs 1000 40000 (lw_Z below #[Value.ref b] s) (F0 m 860 ls []) := by
  have hA : ∀ q : Nat, s.heap.size ≤ q → (fun q : Nat => s.heap.size ≤ q) q := fun _ h => h
  have hbA : ¬ (fun q : Nat => s.heap.size ≤ q) b := Nat.not_le.mpr hbl
  refine lv_aload_n hx hb dL_law_860 rfl (lv_at hl 2 rfl) ?_
  refine lv_aload_n hx hb dL_law_861 rfl (lv_at hl 3 rfl) ?_
  refine lv_iload_n hx hb dL_law_862 rfl (lv_at hl 0 rfl) ?_
  refine lv_iconst (v := 1) hx hb dL_law_863 (by decide) ?_
  refine lv_iadd hx hb dL_law_864 ?_
  refine ow_top 1 (by decide +kernel) ?_
  refine va_sld hx hb hX hbl hbA hS (in_lit (by decide +kernel)) dL_law_865 ?_
  refine ow_top (xs 1) rfl ?_
  refine lv_if_eq (tgt := 873) hx hb dL_law_866 (by decide) (fun c_1 => ?_) (fun c_1 => ?_)
  · skip
    refine lv_iconst (v := 0) hx hb dL_law_873 (by decide) ?_
    have hPD := fr_left hP hD
    have hFc := fr_leftF hD hS hA
    refine va_calli (va_runV (As := [.int 0]) (rest := []) ⟨hx, hb, hml, hown, ht⟩ (x_night0 l G cy _ x h) (cwV 1 ht (gv k_533 k_534 k_535 k_183 k_532) rfl rfl rfl (by decide +kernel) ⟨Nat.le_of_ble_eq_true rfl, Nat.le_of_ble_eq_true rfl⟩) ⟨En.blind, va_recv hK hPD.1 (ci := 11) (q0 := 0) rfl rfl, fun U hU hW => ⟨rfl, En.of hU hW hPD.1 hK hPD.2 hN⟩⟩ rfl rfl hl.1 rfl (lv_room (Nat.le_of_ble_eq_true rfl)) dL_law_874 ⟨Nat.le_of_ble_eq_true rfl, Nat.le_of_ble_eq_true rfl⟩) hS (fun q _ h => hFc q h) hFc (fun r_2 u t H locs ht9 hvm hwr_2 hB hz1 hk1 hS => ?_)
    obtain ⟨hP, hD⟩ := fr_drop hP hD hk1
    refine lv_aload_n hx hb dL_law_877 rfl (lv_at hl 1 rfl) ?_
    refine lv_aload_n hx hb dL_law_878 rfl (lv_at hl 3 rfl) ?_
    refine lv_iload_n hx hb dL_law_879 rfl (lv_at hl 0 rfl) ?_
    refine lv_iconst (v := 1) hx hb dL_law_880 (by decide) ?_
    refine lv_iadd hx hb dL_law_881 ?_
    refine ow_top 1 (by decide +kernel) ?_
    refine va_sld hx hb hX hbl hbA hS (in_lit (by decide +kernel)) dL_law_882 ?_
    refine ow_top (xs 1) rfl ?_
    refine lv_if_eq (tgt := 890) hx hb dL_law_883 (by decide) (fun c_3 => ?_) (fun c_3 => ?_)
    · skip
      refine lv_iconst (v := 0) hx hb dL_law_890 (by decide) ?_
      have hFc := fr_free hD hS hA
      refine va_calli (va_runV (As := [.int 0]) (rest := [.int r_2]) ⟨hx, hb, hml, hown, ht⟩ (m_night0 l G cy _ mo k9 f) (cwV 1 ht (gv k_537 k_538 k_539 k_314 k_536) rfl rfl rfl (by decide +kernel) ⟨Nat.le_of_ble_eq_true rfl, Nat.le_of_ble_eq_true rfl⟩) ⟨En.blind, va_recv hK hP (ci := 12) (q0 := 0) rfl rfl, fun U hU hW => ⟨rfl, En.of hU hW hP hK hD hN⟩⟩ rfl rfl hl.1 rfl (lv_room (Nat.le_of_ble_eq_true rfl)) dL_law_891 ⟨Nat.le_of_ble_eq_true rfl, Nat.le_of_ble_eq_true rfl⟩) hS (fun q _ h => hFc q h) hFc (fun r_4 u t H locs ht9 hvm hwr_4 hB hz1 hk1 hS => ?_)
      refine lv_icmp_eq (tgt := 1211) hx hb dL_law_894 (by decide) (fun _ => ?_) (fun c9 => absurd (hwr_2.1.trans hwr_4.1.symm) c9)
      refine lv_iinc (v := 6) (lv' := [(3, .int 6), (2, .ref mo), (1, .ref x), (0, .ref b)]) hx hb dL_law_1211 hl (k := 0) rfl (by decide) (by decide) rfl (fun ls hl => ?_)
      refine lv_goto (tgt := 18) hx hb dL_law_1214 (by decide) ?_
      refine lv_iload_n hx hb dL_law_18 rfl (lv_at hl 0 rfl) ?_
      refine lv_aload_n hx hb dL_law_19 rfl (lv_at hl 3 rfl) ?_
      refine va_slen hx hb hX hbl hbA hS dL_law_20 ?_
      refine ow_top 6 (by decide +kernel) ?_
      refine lv_bipush (v := 6) hx hb dL_law_21 (by decide) ?_
      refine lv_isub hx hb dL_law_23 ?_
      refine ow_top 0 (by decide +kernel) ?_
      refine lv_icmp_gt (tgt := 1217) hx hb dL_law_24 (by decide) (fun _ => ?_) (fun c9 => absurd (by decide) c9)
      refine lv_iconst (v := 1) hx hb dL_law_1217 (by decide) ?_
      refine va_forget (fun q hq => hS.2.2 q hq) ?_
      refine W.widen (k := 600000) (n := 7302250) (Nat.le_of_ble_eq_true rfl) (Nat.le_of_ble_eq_true rfl) ?_
      exact lw_ret hx hb hr hlocks dL_law_1218
    · exfalso
      have z0 : (0 : Int32).toInt = 0 := (by decide); (try simp only [ow_lt, ow_le, ow_eq, true_and, and_true] at c_1 c_3); omega
  · skip
    refine lv_iconst (v := 1) hx hb dL_law_869 (by decide) ?_
    refine lv_goto (tgt := 874) hx hb dL_law_870 (by decide) ?_
    have hPD := fr_left hP hD
    have hFc := fr_leftF hD hS hA
    refine va_calli (va_runV (As := [.int 1]) (rest := []) ⟨hx, hb, hml, hown, ht⟩ (x_night1 l G cy _ x h) (cwV 1 ht (gv k_533 k_534 k_535 k_183 k_532) rfl rfl rfl (by decide +kernel) ⟨Nat.le_of_ble_eq_true rfl, Nat.le_of_ble_eq_true rfl⟩) ⟨En.blind, va_recv hK hPD.1 (ci := 11) (q0 := 0) rfl rfl, fun U hU hW => ⟨rfl, En.of hU hW hPD.1 hK hPD.2 hN⟩⟩ rfl rfl hl.1 rfl (lv_room (Nat.le_of_ble_eq_true rfl)) dL_law_874 ⟨Nat.le_of_ble_eq_true rfl, Nat.le_of_ble_eq_true rfl⟩) hS (fun q _ h => hFc q h) hFc (fun r_5 u t H locs ht9 hvm hwr_5 hB hz1 hk1 hS => ?_)
    obtain ⟨hP, hD⟩ := fr_drop hP hD hk1
    refine lv_aload_n hx hb dL_law_877 rfl (lv_at hl 1 rfl) ?_
    refine lv_aload_n hx hb dL_law_878 rfl (lv_at hl 3 rfl) ?_
    refine lv_iload_n hx hb dL_law_879 rfl (lv_at hl 0 rfl) ?_
    refine lv_iconst (v := 1) hx hb dL_law_880 (by decide) ?_
    refine lv_iadd hx hb dL_law_881 ?_
    refine ow_top 1 (by decide +kernel) ?_
    refine va_sld hx hb hX hbl hbA hS (in_lit (by decide +kernel)) dL_law_882 ?_
    refine ow_top (xs 1) rfl ?_
    refine lv_if_eq (tgt := 890) hx hb dL_law_883 (by decide) (fun c_6 => ?_) (fun c_6 => ?_)
    · exfalso
      have z0 : (0 : Int32).toInt = 0 := (by decide); (try simp only [ow_lt, ow_le, ow_eq, true_and, and_true] at c_1 c_6); omega
    · skip
      refine lv_iconst (v := 1) hx hb dL_law_886 (by decide) ?_
      refine lv_goto (tgt := 891) hx hb dL_law_887 (by decide) ?_
      have hFc := fr_free hD hS hA
      refine va_calli (va_runV (As := [.int 1]) (rest := [.int r_5]) ⟨hx, hb, hml, hown, ht⟩ (m_night1 l G cy _ mo k9 f) (cwV 1 ht (gv k_537 k_538 k_539 k_314 k_536) rfl rfl rfl (by decide +kernel) ⟨Nat.le_of_ble_eq_true rfl, Nat.le_of_ble_eq_true rfl⟩) ⟨En.blind, va_recv hK hP (ci := 12) (q0 := 0) rfl rfl, fun U hU hW => ⟨rfl, En.of hU hW hP hK hD hN⟩⟩ rfl rfl hl.1 rfl (lv_room (Nat.le_of_ble_eq_true rfl)) dL_law_891 ⟨Nat.le_of_ble_eq_true rfl, Nat.le_of_ble_eq_true rfl⟩) hS (fun q _ h => hFc q h) hFc (fun r_7 u t H locs ht9 hvm hwr_7 hB hz1 hk1 hS => ?_)
      refine lv_icmp_eq (tgt := 1211) hx hb dL_law_894 (by decide) (fun _ => ?_) (fun c9 => absurd (hwr_5.1.trans hwr_7.1.symm) c9)
      refine lv_iinc (v := 6) (lv' := [(3, .int 6), (2, .ref mo), (1, .ref x), (0, .ref b)]) hx hb dL_law_1211 hl (k := 0) rfl (by decide) (by decide) rfl (fun ls hl => ?_)
      refine lv_goto (tgt := 18) hx hb dL_law_1214 (by decide) ?_
      refine lv_iload_n hx hb dL_law_18 rfl (lv_at hl 0 rfl) ?_
      refine lv_aload_n hx hb dL_law_19 rfl (lv_at hl 3 rfl) ?_
      refine va_slen hx hb hX hbl hbA hS dL_law_20 ?_
      refine ow_top 6 (by decide +kernel) ?_
      refine lv_bipush (v := 6) hx hb dL_law_21 (by decide) ?_
      refine lv_isub hx hb dL_law_23 ?_
      refine ow_top 0 (by decide +kernel) ?_
      refine lv_icmp_gt (tgt := 1217) hx hb dL_law_24 (by decide) (fun _ => ?_) (fun c9 => absurd (by decide) c9)
      refine lv_iconst (v := 1) hx hb dL_law_1217 (by decide) ?_
      refine va_forget (fun q hq => hS.2.2 q hq) ?_
      refine W.widen (k := 600000) (n := 7302250) (Nat.le_of_ble_eq_true rfl) (Nat.le_of_ble_eq_true rfl) ?_
      exact lw_ret hx hb hr hlocks dL_law_1218
set_option maxHeartbeats 4000000 in
set_option maxRecDepth 100000 in
theorem law_21 {p : Program} {e : Env} {s : State} {m : MethodId} {below : List Frame} {meth : Method} {c : Code} (l : Launch) {b : Nat} {xs : Nat → Int32} {G : va_G} {cy : Nat → ClassId} {x mo : Nat} {h k9 : Nat → Nat} {f : Nat → Nat → Int32} (hbm : ∀ k, k < 3 → f 2 k = -1) (hx : p.tables.exec = Jvm.exec) (hb : c.code = code) (hr : meth.sig.returnType = ret) (hml : c.maxLocals = 4) (hown : s.vm.findClass RL = some m.cls) (ht : ∀ w ∈ TBg, w.before #[Value.ref b] s = true) (hX : va_X b 6 xs s s.heap) (hbl : b < s.heap.size) (hlocks : meth.locks = false) (hK : va_K G vwCl (TY cy) s) (hN : NK s) {tsw : Nat} (hSW : SWt tsw (fun q : Nat => s.heap.size ≤ q) s) {H : Heap} {locs : List Loc} (hP : va_P G vwCl (WX cy x h ++ WM cy mo k9 f) H) (hD : va_D (fun q : Nat => s.heap.size ≤ q) (WX cy x h ++ WM cy mo k9 f)) (hS : va_S (fun q : Nat => s.heap.size ≤ q) s.heap H locs) {ls : Array Slot} (hl : lv_has ls 4 [(3, .int 0), (2, .ref mo), (1, .ref x), (0, .ref b)]) : W p l e room_1 s m #[Value.ref b] below meth c H locs 1000 40000 (lw_Z below #[Value.ref b] s) (F0 m 899 ls []) := by
  have hA : ∀ q : Nat, s.heap.size ≤ q → (fun q : Nat => s.heap.size ≤ q) q := fun _ h => h
  have hbA : ¬ (fun q : Nat => s.heap.size ≤ q) b := Nat.not_le.mpr hbl
  refine lv_aload_n hx hb dL_law_899 rfl (lv_at hl 2 rfl) ?_
  refine lv_aload_n hx hb dL_law_900 rfl (lv_at hl 3 rfl) ?_
  refine lv_iload_n hx hb dL_law_901 rfl (lv_at hl 0 rfl) ?_
  refine lv_iconst (v := 1) hx hb dL_law_902 (by decide) ?_
  refine lv_iadd hx hb dL_law_903 ?_
  refine ow_top 1 (by decide +kernel) ?_
  refine va_sld hx hb hX hbl hbA hS (in_lit (by decide +kernel)) dL_law_904 ?_
  refine ow_top (xs 1) rfl ?_
  refine lv_aload_n hx hb dL_law_905 rfl (lv_at hl 3 rfl) ?_
  refine lv_iload_n hx hb dL_law_906 rfl (lv_at hl 0 rfl) ?_
  refine lv_iconst (v := 2) hx hb dL_law_907 (by decide) ?_
  refine lv_iadd hx hb dL_law_908 ?_
  refine ow_top 2 (by decide +kernel) ?_
  refine va_sld hx hb hX hbl hbA hS (in_lit (by decide +kernel)) dL_law_909 ?_
  refine ow_top (xs 2) rfl ?_
  have hPD := fr_left hP hD
  have hFc := fr_leftF hD hS hA
  refine va_calli (va_runV (As := [.int (xs 1), .int (xs 2)]) (rest := []) ⟨hx, hb, hml, hown, ht⟩ (x_lock l G cy _ x h (xs 1) (xs 2)) (cwV 2 ht (gv k_541 k_542 k_543 k_183 k_540) rfl rfl rfl (by decide +kernel) ⟨Nat.le_of_ble_eq_true rfl, Nat.le_of_ble_eq_true rfl⟩) ⟨En.blind, va_recv hK hPD.1 (ci := 11) (q0 := 0) rfl rfl, fun U hU hW => ⟨rfl, En.of hU hW hPD.1 hK hPD.2 hN⟩⟩ rfl rfl hl.1 rfl (lv_room (Nat.le_of_ble_eq_true rfl)) dL_law_910 ⟨Nat.le_of_ble_eq_true rfl, Nat.le_of_ble_eq_true rfl⟩) hS (fun q _ h => hFc q h) hFc (fun r_1 u t H locs ht9 hvm hwr_1 hB hz1 hk1 hS => ?_)
  obtain ⟨hP, hD⟩ := fr_drop hP hD hk1
  refine lv_aload_n hx hb dL_law_913 rfl (lv_at hl 1 rfl) ?_
  refine lv_aload_n hx hb dL_law_914 rfl (lv_at hl 3 rfl) ?_
  refine lv_iload_n hx hb dL_law_915 rfl (lv_at hl 0 rfl) ?_
  refine lv_iconst (v := 1) hx hb dL_law_916 (by decide) ?_
  refine lv_iadd hx hb dL_law_917 ?_
  refine ow_top 1 (by decide +kernel) ?_
  refine va_sld hx hb hX hbl hbA hS (in_lit (by decide +kernel)) dL_law_918 ?_
  refine ow_top (xs 1) rfl ?_
  refine lv_aload_n hx hb dL_law_919 rfl (lv_at hl 3 rfl) ?_
  refine lv_iload_n hx hb dL_law_920 rfl (lv_at hl 0 rfl) ?_
  refine lv_iconst (v := 2) hx hb dL_law_921 (by decide) ?_
  refine lv_iadd hx hb dL_law_922 ?_
  refine ow_top 2 (by decide +kernel) ?_
  refine va_sld hx hb hX hbl hbA hS (in_lit (by decide +kernel)) dL_law_923 ?_
  refine ow_top (xs 2) rfl ?_
  have hFc := fr_free hD hS hA
  refine va_calli (va_runV (As := [.int (xs 1), .int (xs 2)]) (rest := [.int r_1]) ⟨hx, hb, hml, hown, ht⟩ (m_lock l G cy _ mo k9 f (xs 1) (xs 2)) (cwV 2 ht (gv k_545 k_546 k_547 k_314 k_544) rfl rfl rfl (by decide +kernel) ⟨Nat.le_of_ble_eq_true rfl, Nat.le_of_ble_eq_true rfl⟩) ⟨En.blind, va_recv hK hP (ci := 12) (q0 := 0) rfl rfl, fun U hU hW => ⟨rfl, En.of hU hW hP hK hD hN⟩⟩ rfl rfl hl.1 rfl (lv_room (Nat.le_of_ble_eq_true rfl)) dL_law_924 ⟨Nat.le_of_ble_eq_true rfl, Nat.le_of_ble_eq_true rfl⟩) hS (fun q _ h => hFc q h) hFc (fun r_2 u t H locs ht9 hvm hwr_2 hB hz1 hk1 hS => ?_)
  refine lv_icmp_eq (tgt := 1211) hx hb dL_law_927 (by decide) (fun _ => ?_) (fun c9 => absurd (hwr_1.1.trans hwr_2.1.symm) c9)
  refine lv_iinc (v := 6) (lv' := [(3, .int 6), (2, .ref mo), (1, .ref x), (0, .ref b)]) hx hb dL_law_1211 hl (k := 0) rfl (by decide) (by decide) rfl (fun ls hl => ?_)
  refine lv_goto (tgt := 18) hx hb dL_law_1214 (by decide) ?_
  refine lv_iload_n hx hb dL_law_18 rfl (lv_at hl 0 rfl) ?_
  refine lv_aload_n hx hb dL_law_19 rfl (lv_at hl 3 rfl) ?_
  refine va_slen hx hb hX hbl hbA hS dL_law_20 ?_
  refine ow_top 6 (by decide +kernel) ?_
  refine lv_bipush (v := 6) hx hb dL_law_21 (by decide) ?_
  refine lv_isub hx hb dL_law_23 ?_
  refine ow_top 0 (by decide +kernel) ?_
  refine lv_icmp_gt (tgt := 1217) hx hb dL_law_24 (by decide) (fun _ => ?_) (fun c9 => absurd (by decide) c9)
  refine lv_iconst (v := 1) hx hb dL_law_1217 (by decide) ?_
  refine va_forget (fun q hq => hS.2.2 q hq) ?_
  refine W.widen (k := 600000) (n := 7302250) (Nat.le_of_ble_eq_true rfl) (Nat.le_of_ble_eq_true rfl) ?_
  exact lw_ret hx hb hr hlocks dL_law_1218
set_option maxHeartbeats 4000000 in
set_option maxRecDepth 100000 in
theorem law_22 {p : Program} {e : Env} {s : State} {m : MethodId} {below : List Frame} {meth : Method} {c : Code} (l : Launch) {b : Nat} {xs : Nat → Int32} {G : va_G} {cy : Nat → ClassId} {x mo : Nat} {h k9 : Nat → Nat} {f : Nat → Nat → Int32} (hbm : ∀ k, k < 3 → f 2 k = -1) (hx : p.tables.exec = Jvm.exec) (hb : c.code = code) (hr : meth.sig.returnType = ret) (hml : c.maxLocals = 4) (hown : s.vm.findClass RL = some m.cls) (ht : ∀ w ∈ TBg, w.before #[Value.ref b] s = true) (hX : va_X b 6 xs s s.heap) (hbl : b < s.heap.size) (hlocks : meth.locks = false) (hK : va_K G vwCl (TY cy) s) (hN : NK s) {tsw : Nat} (hSW : SWt tsw (fun q : Nat => s.heap.size ≤ q) s) {H : Heap} {locs : List Loc} (hP : va_P G vwCl (WX cy x h ++ WM cy mo k9 f) H) (hD : va_D (fun q : Nat => s.heap.size ≤ q) (WX cy x h ++ WM cy mo k9 f)) (hS : va_S (fun q : Nat => s.heap.size ≤ q) s.heap H locs) {ls : Array Slot} (hl : lv_has ls 4 [(3, .int 0), (2, .ref mo), (1, .ref x), (0, .ref b)]) : W p l e room_1 s m #[Value.ref b] below meth c H locs 1000 40000 (lw_Z below #[Value.ref b] s) (F0 m 932 ls []) := by
  have hA : ∀ q : Nat, s.heap.size ≤ q → (fun q : Nat => s.heap.size ≤ q) q := fun _ h => h
  have hbA : ¬ (fun q : Nat => s.heap.size ≤ q) b := Nat.not_le.mpr hbl
  refine lv_aload_n hx hb dL_law_932 rfl (lv_at hl 2 rfl) ?_
  refine lv_aload_n hx hb dL_law_933 rfl (lv_at hl 3 rfl) ?_
  refine lv_iload_n hx hb dL_law_934 rfl (lv_at hl 0 rfl) ?_
  refine lv_iconst (v := 1) hx hb dL_law_935 (by decide) ?_
  refine lv_iadd hx hb dL_law_936 ?_
  refine ow_top 1 (by decide +kernel) ?_
  refine va_sld hx hb hX hbl hbA hS (in_lit (by decide +kernel)) dL_law_937 ?_
  refine ow_top (xs 1) rfl ?_
  refine lv_aload_n hx hb dL_law_938 rfl (lv_at hl 3 rfl) ?_
  refine lv_iload_n hx hb dL_law_939 rfl (lv_at hl 0 rfl) ?_
  refine lv_iconst (v := 2) hx hb dL_law_940 (by decide) ?_
  refine lv_iadd hx hb dL_law_941 ?_
  refine ow_top 2 (by decide +kernel) ?_
  refine va_sld hx hb hX hbl hbA hS (in_lit (by decide +kernel)) dL_law_942 ?_
  refine ow_top (xs 2) rfl ?_
  have hPD := fr_left hP hD
  have hFc := fr_leftF hD hS hA
  refine va_calli (va_runV (As := [.int (xs 1), .int (xs 2)]) (rest := []) ⟨hx, hb, hml, hown, ht⟩ (x_heard l G cy _ x h (xs 1) (xs 2)) (cwV 2 ht (gv k_549 k_550 k_551 k_183 k_548) rfl rfl rfl (by decide +kernel) ⟨Nat.le_of_ble_eq_true rfl, Nat.le_of_ble_eq_true rfl⟩) ⟨En.blind, va_recv hK hPD.1 (ci := 11) (q0 := 0) rfl rfl, fun U hU hW => ⟨rfl, En.of hU hW hPD.1 hK hPD.2 hN⟩⟩ rfl rfl hl.1 rfl (lv_room (Nat.le_of_ble_eq_true rfl)) dL_law_943 ⟨Nat.le_of_ble_eq_true rfl, Nat.le_of_ble_eq_true rfl⟩) hS (fun q _ h => hFc q h) hFc (fun r_1 u t H locs ht9 hvm hwr_1 hB hz1 hk1 hS => ?_)
  obtain ⟨hP, hD⟩ := fr_drop hP hD hk1
  refine lv_aload_n hx hb dL_law_946 rfl (lv_at hl 1 rfl) ?_
  refine lv_aload_n hx hb dL_law_947 rfl (lv_at hl 3 rfl) ?_
  refine lv_iload_n hx hb dL_law_948 rfl (lv_at hl 0 rfl) ?_
  refine lv_iconst (v := 1) hx hb dL_law_949 (by decide) ?_
  refine lv_iadd hx hb dL_law_950 ?_
  refine ow_top 1 (by decide +kernel) ?_
  refine va_sld hx hb hX hbl hbA hS (in_lit (by decide +kernel)) dL_law_951 ?_
  refine ow_top (xs 1) rfl ?_
  refine lv_aload_n hx hb dL_law_952 rfl (lv_at hl 3 rfl) ?_
  refine lv_iload_n hx hb dL_law_953 rfl (lv_at hl 0 rfl) ?_
  refine lv_iconst (v := 2) hx hb dL_law_954 (by decide) ?_
  refine lv_iadd hx hb dL_law_955 ?_
  refine ow_top 2 (by decide +kernel) ?_
  refine va_sld hx hb hX hbl hbA hS (in_lit (by decide +kernel)) dL_law_956 ?_
  refine ow_top (xs 2) rfl ?_
  have hFc := fr_free hD hS hA
  refine va_calli (va_runV (As := [.int (xs 1), .int (xs 2)]) (rest := [.int r_1]) ⟨hx, hb, hml, hown, ht⟩ (m_heard l G cy _ mo k9 f (xs 1) (xs 2)) (cwV 2 ht (gv k_553 k_554 k_555 k_314 k_552) rfl rfl rfl (by decide +kernel) ⟨Nat.le_of_ble_eq_true rfl, Nat.le_of_ble_eq_true rfl⟩) ⟨En.blind, va_recv hK hP (ci := 12) (q0 := 0) rfl rfl, fun U hU hW => ⟨rfl, En.of hU hW hP hK hD hN⟩⟩ rfl rfl hl.1 rfl (lv_room (Nat.le_of_ble_eq_true rfl)) dL_law_957 ⟨Nat.le_of_ble_eq_true rfl, Nat.le_of_ble_eq_true rfl⟩) hS (fun q _ h => hFc q h) hFc (fun r_2 u t H locs ht9 hvm hwr_2 hB hz1 hk1 hS => ?_)
  refine lv_icmp_eq (tgt := 1211) hx hb dL_law_960 (by decide) (fun _ => ?_) (fun c9 => absurd (hwr_1.1.trans hwr_2.1.symm) c9)
  refine lv_iinc (v := 6) (lv' := [(3, .int 6), (2, .ref mo), (1, .ref x), (0, .ref b)]) hx hb dL_law_1211 hl (k := 0) rfl (by decide) (by decide) rfl (fun ls hl => ?_)
  refine lv_goto (tgt := 18) hx hb dL_law_1214 (by decide) ?_
  refine lv_iload_n hx hb dL_law_18 rfl (lv_at hl 0 rfl) ?_
  refine lv_aload_n hx hb dL_law_19 rfl (lv_at hl 3 rfl) ?_
  refine va_slen hx hb hX hbl hbA hS dL_law_20 ?_
  refine ow_top 6 (by decide +kernel) ?_
  refine lv_bipush (v := 6) hx hb dL_law_21 (by decide) ?_
  refine lv_isub hx hb dL_law_23 ?_
  refine ow_top 0 (by decide +kernel) ?_
  refine lv_icmp_gt (tgt := 1217) hx hb dL_law_24 (by decide) (fun _ => ?_) (fun c9 => absurd (by decide) c9)
  refine lv_iconst (v := 1) hx hb dL_law_1217 (by decide) ?_
  refine va_forget (fun q hq => hS.2.2 q hq) ?_
  refine W.widen (k := 600000) (n := 7302250) (Nat.le_of_ble_eq_true rfl) (Nat.le_of_ble_eq_true rfl) ?_
  exact lw_ret hx hb hr hlocks dL_law_1218
set_option maxHeartbeats 4000000 in
set_option maxRecDepth 100000 in
theorem law_23 {p : Program} {e : Env} {s : State} {m : MethodId} {below : List Frame} {meth : Method} {c : Code} (l : Launch) {b : Nat} {xs : Nat → Int32} {G : va_G} {cy : Nat → ClassId} {x mo : Nat} {h k9 : Nat → Nat} {f : Nat → Nat → Int32} (hbm : ∀ k, k < 3 → f 2 k = -1) (hx : p.tables.exec = Jvm.exec) (hb : c.code = code) (hr : meth.sig.returnType = ret) (hml : c.maxLocals = 4) (hown : s.vm.findClass RL = some m.cls) (ht : ∀ w ∈ TBg, w.before #[Value.ref b] s = true) (hX : va_X b 6 xs s s.heap) (hbl : b < s.heap.size) (hlocks : meth.locks = false) (hK : va_K G vwCl (TY cy) s) (hN : NK s) {tsw : Nat} (hSW : SWt tsw (fun q : Nat => s.heap.size ≤ q) s) {H : Heap} {locs : List Loc} (hP : va_P G vwCl (WX cy x h ++ WM cy mo k9 f) H) (hD : va_D (fun q : Nat => s.heap.size ≤ q) (WX cy x h ++ WM cy mo k9 f)) (hS : va_S (fun q : Nat => s.heap.size ≤ q) s.heap H locs) {ls : Array Slot} (hl : lv_has ls 4 [(3, .int 0), (2, .ref mo), (1, .ref x), (0, .ref b)]) : W p l e room_1 s m #[Value.ref b] below meth c H locs 1000 40000 (lw_Z below #[Value.ref b] s) (F0 m 965 ls []) := by
  have hA : ∀ q : Nat, s.heap.size ≤ q → (fun q : Nat => s.heap.size ≤ q) q := fun _ h => h
  have hbA : ¬ (fun q : Nat => s.heap.size ≤ q) b := Nat.not_le.mpr hbl
  refine lv_aload_n hx hb dL_law_965 rfl (lv_at hl 2 rfl) ?_
  refine lv_aload_n hx hb dL_law_966 rfl (lv_at hl 3 rfl) ?_
  refine lv_iload_n hx hb dL_law_967 rfl (lv_at hl 0 rfl) ?_
  refine lv_iconst (v := 1) hx hb dL_law_968 (by decide) ?_
  refine lv_iadd hx hb dL_law_969 ?_
  refine ow_top 1 (by decide +kernel) ?_
  refine va_sld hx hb hX hbl hbA hS (in_lit (by decide +kernel)) dL_law_970 ?_
  refine ow_top (xs 1) rfl ?_
  refine lv_aload_n hx hb dL_law_971 rfl (lv_at hl 3 rfl) ?_
  refine lv_iload_n hx hb dL_law_972 rfl (lv_at hl 0 rfl) ?_
  refine lv_iconst (v := 2) hx hb dL_law_973 (by decide) ?_
  refine lv_iadd hx hb dL_law_974 ?_
  refine ow_top 2 (by decide +kernel) ?_
  refine va_sld hx hb hX hbl hbA hS (in_lit (by decide +kernel)) dL_law_975 ?_
  refine ow_top (xs 2) rfl ?_
  refine lv_if_eq (tgt := 983) hx hb dL_law_976 (by decide) (fun c_1 => ?_) (fun c_1 => ?_)
  · skip
    refine lv_iconst (v := 0) hx hb dL_law_983 (by decide) ?_
    refine lv_aload_n hx hb dL_law_984 rfl (lv_at hl 3 rfl) ?_
    refine lv_iload_n hx hb dL_law_985 rfl (lv_at hl 0 rfl) ?_
    refine lv_iconst (v := 3) hx hb dL_law_986 (by decide) ?_
    refine lv_iadd hx hb dL_law_987 ?_
    refine ow_top 3 (by decide +kernel) ?_
    refine va_sld hx hb hX hbl hbA hS (in_lit (by decide +kernel)) dL_law_988 ?_
    refine ow_top (xs 3) rfl ?_
    refine lv_if_eq (tgt := 996) hx hb dL_law_989 (by decide) (fun c_2 => ?_) (fun c_2 => ?_)
    · skip
      refine lv_iconst (v := 0) hx hb dL_law_996 (by decide) ?_
      have hPD := fr_left hP hD
      have hFc := fr_leftF hD hS hA
      refine va_calli (va_runV (As := [.int (xs 1), .int 0, .int 0]) (rest := []) ⟨hx, hb, hml, hown, ht⟩ (x_watch l G cy _ x h (xs 1) 0 0) (cwV 3 ht (gv k_557 k_558 k_559 k_183 k_556) rfl rfl rfl (by decide +kernel) ⟨Nat.le_of_ble_eq_true rfl, Nat.le_of_ble_eq_true rfl⟩) ⟨En.blind, va_recv hK hPD.1 (ci := 11) (q0 := 0) rfl rfl, fun U hU hW => ⟨rfl, En.of hU hW hPD.1 hK hPD.2 hN⟩⟩ rfl rfl hl.1 rfl (lv_room (Nat.le_of_ble_eq_true rfl)) dL_law_997 ⟨Nat.le_of_ble_eq_true rfl, Nat.le_of_ble_eq_true rfl⟩) hS (fun q _ h => hFc q h) hFc (fun r_3 u t H locs ht9 hvm hwr_3 hB hz1 hk1 hS => ?_)
      obtain ⟨hP, hD⟩ := fr_drop hP hD hk1
      refine lv_aload_n hx hb dL_law_1000 rfl (lv_at hl 1 rfl) ?_
      refine lv_aload_n hx hb dL_law_1001 rfl (lv_at hl 3 rfl) ?_
      refine lv_iload_n hx hb dL_law_1002 rfl (lv_at hl 0 rfl) ?_
      refine lv_iconst (v := 1) hx hb dL_law_1003 (by decide) ?_
      refine lv_iadd hx hb dL_law_1004 ?_
      refine ow_top 1 (by decide +kernel) ?_
      refine va_sld hx hb hX hbl hbA hS (in_lit (by decide +kernel)) dL_law_1005 ?_
      refine ow_top (xs 1) rfl ?_
      refine lv_aload_n hx hb dL_law_1006 rfl (lv_at hl 3 rfl) ?_
      refine lv_iload_n hx hb dL_law_1007 rfl (lv_at hl 0 rfl) ?_
      refine lv_iconst (v := 2) hx hb dL_law_1008 (by decide) ?_
      refine lv_iadd hx hb dL_law_1009 ?_
      refine ow_top 2 (by decide +kernel) ?_
      refine va_sld hx hb hX hbl hbA hS (in_lit (by decide +kernel)) dL_law_1010 ?_
      refine ow_top (xs 2) rfl ?_
      refine lv_if_eq (tgt := 1018) hx hb dL_law_1011 (by decide) (fun c_4 => ?_) (fun c_4 => ?_)
      · skip
        refine lv_iconst (v := 0) hx hb dL_law_1018 (by decide) ?_
        refine lv_aload_n hx hb dL_law_1019 rfl (lv_at hl 3 rfl) ?_
        refine lv_iload_n hx hb dL_law_1020 rfl (lv_at hl 0 rfl) ?_
        refine lv_iconst (v := 3) hx hb dL_law_1021 (by decide) ?_
        refine lv_iadd hx hb dL_law_1022 ?_
        refine ow_top 3 (by decide +kernel) ?_
        refine va_sld hx hb hX hbl hbA hS (in_lit (by decide +kernel)) dL_law_1023 ?_
        refine ow_top (xs 3) rfl ?_
        refine lv_if_eq (tgt := 1031) hx hb dL_law_1024 (by decide) (fun c_5 => ?_) (fun c_5 => ?_)
        · skip
          refine lv_iconst (v := 0) hx hb dL_law_1031 (by decide) ?_
          have hFc := fr_free hD hS hA
          refine va_calli (va_runV (As := [.int (xs 1), .int 0, .int 0]) (rest := [.int r_3]) ⟨hx, hb, hml, hown, ht⟩ (m_watch l G cy _ mo k9 f (xs 1) 0 0) (cwV 3 ht (gv k_561 k_562 k_563 k_314 k_560) rfl rfl rfl (by decide +kernel) ⟨Nat.le_of_ble_eq_true rfl, Nat.le_of_ble_eq_true rfl⟩) ⟨En.blind, va_recv hK hP (ci := 12) (q0 := 0) rfl rfl, fun U hU hW => ⟨rfl, En.of hU hW hP hK hD hN⟩⟩ rfl rfl hl.1 rfl (lv_room (Nat.le_of_ble_eq_true rfl)) dL_law_1032 ⟨Nat.le_of_ble_eq_true rfl, Nat.le_of_ble_eq_true rfl⟩) hS (fun q _ h => hFc q h) hFc (fun r_6 u t H locs ht9 hvm hwr_6 hB hz1 hk1 hS => ?_)
          refine lv_icmp_eq (tgt := 1211) hx hb dL_law_1035 (by decide) (fun _ => ?_) (fun c9 => absurd (hwr_3.1.trans hwr_6.1.symm) c9)
          refine lv_iinc (v := 6) (lv' := [(3, .int 6), (2, .ref mo), (1, .ref x), (0, .ref b)]) hx hb dL_law_1211 hl (k := 0) rfl (by decide) (by decide) rfl (fun ls hl => ?_)
          refine lv_goto (tgt := 18) hx hb dL_law_1214 (by decide) ?_
          refine lv_iload_n hx hb dL_law_18 rfl (lv_at hl 0 rfl) ?_
          refine lv_aload_n hx hb dL_law_19 rfl (lv_at hl 3 rfl) ?_
          refine va_slen hx hb hX hbl hbA hS dL_law_20 ?_
          refine ow_top 6 (by decide +kernel) ?_
          refine lv_bipush (v := 6) hx hb dL_law_21 (by decide) ?_
          refine lv_isub hx hb dL_law_23 ?_
          refine ow_top 0 (by decide +kernel) ?_
          refine lv_icmp_gt (tgt := 1217) hx hb dL_law_24 (by decide) (fun _ => ?_) (fun c9 => absurd (by decide) c9)
          refine lv_iconst (v := 1) hx hb dL_law_1217 (by decide) ?_
          refine va_forget (fun q hq => hS.2.2 q hq) ?_
          refine W.widen (k := 600000) (n := 7302250) (Nat.le_of_ble_eq_true rfl) (Nat.le_of_ble_eq_true rfl) ?_
          exact lw_ret hx hb hr hlocks dL_law_1218
        · exfalso
          have z0 : (0 : Int32).toInt = 0 := (by decide); (try simp only [ow_lt, ow_le, ow_eq, true_and, and_true] at c_2 c_5); omega
      · exfalso
        have z0 : (0 : Int32).toInt = 0 := (by decide); (try simp only [ow_lt, ow_le, ow_eq, true_and, and_true] at c_1 c_4); omega
    · skip
      refine lv_iconst (v := 1) hx hb dL_law_992 (by decide) ?_
      refine lv_goto (tgt := 997) hx hb dL_law_993 (by decide) ?_
      have hPD := fr_left hP hD
      have hFc := fr_leftF hD hS hA
      refine va_calli (va_runV (As := [.int (xs 1), .int 0, .int 1]) (rest := []) ⟨hx, hb, hml, hown, ht⟩ (x_watch l G cy _ x h (xs 1) 0 1) (cwV 3 ht (gv k_557 k_558 k_559 k_183 k_556) rfl rfl rfl (by decide +kernel) ⟨Nat.le_of_ble_eq_true rfl, Nat.le_of_ble_eq_true rfl⟩) ⟨En.blind, va_recv hK hPD.1 (ci := 11) (q0 := 0) rfl rfl, fun U hU hW => ⟨rfl, En.of hU hW hPD.1 hK hPD.2 hN⟩⟩ rfl rfl hl.1 rfl (lv_room (Nat.le_of_ble_eq_true rfl)) dL_law_997 ⟨Nat.le_of_ble_eq_true rfl, Nat.le_of_ble_eq_true rfl⟩) hS (fun q _ h => hFc q h) hFc (fun r_7 u t H locs ht9 hvm hwr_7 hB hz1 hk1 hS => ?_)
      obtain ⟨hP, hD⟩ := fr_drop hP hD hk1
      refine lv_aload_n hx hb dL_law_1000 rfl (lv_at hl 1 rfl) ?_
      refine lv_aload_n hx hb dL_law_1001 rfl (lv_at hl 3 rfl) ?_
      refine lv_iload_n hx hb dL_law_1002 rfl (lv_at hl 0 rfl) ?_
      refine lv_iconst (v := 1) hx hb dL_law_1003 (by decide) ?_
      refine lv_iadd hx hb dL_law_1004 ?_
      refine ow_top 1 (by decide +kernel) ?_
      refine va_sld hx hb hX hbl hbA hS (in_lit (by decide +kernel)) dL_law_1005 ?_
      refine ow_top (xs 1) rfl ?_
      refine lv_aload_n hx hb dL_law_1006 rfl (lv_at hl 3 rfl) ?_
      refine lv_iload_n hx hb dL_law_1007 rfl (lv_at hl 0 rfl) ?_
      refine lv_iconst (v := 2) hx hb dL_law_1008 (by decide) ?_
      refine lv_iadd hx hb dL_law_1009 ?_
      refine ow_top 2 (by decide +kernel) ?_
      refine va_sld hx hb hX hbl hbA hS (in_lit (by decide +kernel)) dL_law_1010 ?_
      refine ow_top (xs 2) rfl ?_
      refine lv_if_eq (tgt := 1018) hx hb dL_law_1011 (by decide) (fun c_8 => ?_) (fun c_8 => ?_)
      · skip
        refine lv_iconst (v := 0) hx hb dL_law_1018 (by decide) ?_
        refine lv_aload_n hx hb dL_law_1019 rfl (lv_at hl 3 rfl) ?_
        refine lv_iload_n hx hb dL_law_1020 rfl (lv_at hl 0 rfl) ?_
        refine lv_iconst (v := 3) hx hb dL_law_1021 (by decide) ?_
        refine lv_iadd hx hb dL_law_1022 ?_
        refine ow_top 3 (by decide +kernel) ?_
        refine va_sld hx hb hX hbl hbA hS (in_lit (by decide +kernel)) dL_law_1023 ?_
        refine ow_top (xs 3) rfl ?_
        refine lv_if_eq (tgt := 1031) hx hb dL_law_1024 (by decide) (fun c_9 => ?_) (fun c_9 => ?_)
        · exfalso
          have z0 : (0 : Int32).toInt = 0 := (by decide); (try simp only [ow_lt, ow_le, ow_eq, true_and, and_true] at c_2 c_9); omega
        · skip
          refine lv_iconst (v := 1) hx hb dL_law_1027 (by decide) ?_
          refine lv_goto (tgt := 1032) hx hb dL_law_1028 (by decide) ?_
          have hFc := fr_free hD hS hA
          refine va_calli (va_runV (As := [.int (xs 1), .int 0, .int 1]) (rest := [.int r_7]) ⟨hx, hb, hml, hown, ht⟩ (m_watch l G cy _ mo k9 f (xs 1) 0 1) (cwV 3 ht (gv k_561 k_562 k_563 k_314 k_560) rfl rfl rfl (by decide +kernel) ⟨Nat.le_of_ble_eq_true rfl, Nat.le_of_ble_eq_true rfl⟩) ⟨En.blind, va_recv hK hP (ci := 12) (q0 := 0) rfl rfl, fun U hU hW => ⟨rfl, En.of hU hW hP hK hD hN⟩⟩ rfl rfl hl.1 rfl (lv_room (Nat.le_of_ble_eq_true rfl)) dL_law_1032 ⟨Nat.le_of_ble_eq_true rfl, Nat.le_of_ble_eq_true rfl⟩) hS (fun q _ h => hFc q h) hFc (fun r_10 u t H locs ht9 hvm hwr_10 hB hz1 hk1 hS => ?_)
          refine lv_icmp_eq (tgt := 1211) hx hb dL_law_1035 (by decide) (fun _ => ?_) (fun c9 => absurd (hwr_7.1.trans hwr_10.1.symm) c9)
          refine lv_iinc (v := 6) (lv' := [(3, .int 6), (2, .ref mo), (1, .ref x), (0, .ref b)]) hx hb dL_law_1211 hl (k := 0) rfl (by decide) (by decide) rfl (fun ls hl => ?_)
          refine lv_goto (tgt := 18) hx hb dL_law_1214 (by decide) ?_
          refine lv_iload_n hx hb dL_law_18 rfl (lv_at hl 0 rfl) ?_
          refine lv_aload_n hx hb dL_law_19 rfl (lv_at hl 3 rfl) ?_
          refine va_slen hx hb hX hbl hbA hS dL_law_20 ?_
          refine ow_top 6 (by decide +kernel) ?_
          refine lv_bipush (v := 6) hx hb dL_law_21 (by decide) ?_
          refine lv_isub hx hb dL_law_23 ?_
          refine ow_top 0 (by decide +kernel) ?_
          refine lv_icmp_gt (tgt := 1217) hx hb dL_law_24 (by decide) (fun _ => ?_) (fun c9 => absurd (by decide) c9)
          refine lv_iconst (v := 1) hx hb dL_law_1217 (by decide) ?_
          refine va_forget (fun q hq => hS.2.2 q hq) ?_
          refine W.widen (k := 600000) (n := 7302250) (Nat.le_of_ble_eq_true rfl) (Nat.le_of_ble_eq_true rfl) ?_
          exact lw_ret hx hb hr hlocks dL_law_1218
      · exfalso
        have z0 : (0 : Int32).toInt = 0 := (by decide); (try simp only [ow_lt, ow_le, ow_eq, true_and, and_true] at c_1 c_8); omega
  · skip
    refine lv_iconst (v := 1) hx hb dL_law_979 (by decide) ?_
    refine lv_goto (tgt := 984) hx hb dL_law_980 (by decide) ?_
    refine lv_aload_n hx hb dL_law_984 rfl (lv_at hl 3 rfl) ?_
    refine lv_iload_n hx hb dL_law_985 rfl (lv_at hl 0 rfl) ?_
    refine lv_iconst (v := 3) hx hb dL_law_986 (by decide) ?_
    refine lv_iadd hx hb dL_law_987 ?_
    refine ow_top 3 (by decide +kernel) ?_
    refine va_sld hx hb hX hbl hbA hS (in_lit (by decide +kernel)) dL_law_988 ?_
    refine ow_top (xs 3) rfl ?_
    refine lv_if_eq (tgt := 996) hx hb dL_law_989 (by decide) (fun c_11 => ?_) (fun c_11 => ?_)
    · skip
      refine lv_iconst (v := 0) hx hb dL_law_996 (by decide) ?_
      have hPD := fr_left hP hD
      have hFc := fr_leftF hD hS hA
      refine va_calli (va_runV (As := [.int (xs 1), .int 1, .int 0]) (rest := []) ⟨hx, hb, hml, hown, ht⟩ (x_watch l G cy _ x h (xs 1) 1 0) (cwV 3 ht (gv k_557 k_558 k_559 k_183 k_556) rfl rfl rfl (by decide +kernel) ⟨Nat.le_of_ble_eq_true rfl, Nat.le_of_ble_eq_true rfl⟩) ⟨En.blind, va_recv hK hPD.1 (ci := 11) (q0 := 0) rfl rfl, fun U hU hW => ⟨rfl, En.of hU hW hPD.1 hK hPD.2 hN⟩⟩ rfl rfl hl.1 rfl (lv_room (Nat.le_of_ble_eq_true rfl)) dL_law_997 ⟨Nat.le_of_ble_eq_true rfl, Nat.le_of_ble_eq_true rfl⟩) hS (fun q _ h => hFc q h) hFc (fun r_12 u t H locs ht9 hvm hwr_12 hB hz1 hk1 hS => ?_)
      obtain ⟨hP, hD⟩ := fr_drop hP hD hk1
      refine lv_aload_n hx hb dL_law_1000 rfl (lv_at hl 1 rfl) ?_
      refine lv_aload_n hx hb dL_law_1001 rfl (lv_at hl 3 rfl) ?_
      refine lv_iload_n hx hb dL_law_1002 rfl (lv_at hl 0 rfl) ?_
      refine lv_iconst (v := 1) hx hb dL_law_1003 (by decide) ?_
      refine lv_iadd hx hb dL_law_1004 ?_
      refine ow_top 1 (by decide +kernel) ?_
      refine va_sld hx hb hX hbl hbA hS (in_lit (by decide +kernel)) dL_law_1005 ?_
      refine ow_top (xs 1) rfl ?_
      refine lv_aload_n hx hb dL_law_1006 rfl (lv_at hl 3 rfl) ?_
      refine lv_iload_n hx hb dL_law_1007 rfl (lv_at hl 0 rfl) ?_
      refine lv_iconst (v := 2) hx hb dL_law_1008 (by decide) ?_
      refine lv_iadd hx hb dL_law_1009 ?_
      refine ow_top 2 (by decide +kernel) ?_
      refine va_sld hx hb hX hbl hbA hS (in_lit (by decide +kernel)) dL_law_1010 ?_
      refine ow_top (xs 2) rfl ?_
      refine lv_if_eq (tgt := 1018) hx hb dL_law_1011 (by decide) (fun c_13 => ?_) (fun c_13 => ?_)
      · exfalso
        have z0 : (0 : Int32).toInt = 0 := (by decide); (try simp only [ow_lt, ow_le, ow_eq, true_and, and_true] at c_1 c_13); omega
      · skip
        refine lv_iconst (v := 1) hx hb dL_law_1014 (by decide) ?_
        refine lv_goto (tgt := 1019) hx hb dL_law_1015 (by decide) ?_
        refine lv_aload_n hx hb dL_law_1019 rfl (lv_at hl 3 rfl) ?_
        refine lv_iload_n hx hb dL_law_1020 rfl (lv_at hl 0 rfl) ?_
        refine lv_iconst (v := 3) hx hb dL_law_1021 (by decide) ?_
        refine lv_iadd hx hb dL_law_1022 ?_
        refine ow_top 3 (by decide +kernel) ?_
        refine va_sld hx hb hX hbl hbA hS (in_lit (by decide +kernel)) dL_law_1023 ?_
        refine ow_top (xs 3) rfl ?_
        refine lv_if_eq (tgt := 1031) hx hb dL_law_1024 (by decide) (fun c_14 => ?_) (fun c_14 => ?_)
        · skip
          refine lv_iconst (v := 0) hx hb dL_law_1031 (by decide) ?_
          have hFc := fr_free hD hS hA
          refine va_calli (va_runV (As := [.int (xs 1), .int 1, .int 0]) (rest := [.int r_12]) ⟨hx, hb, hml, hown, ht⟩ (m_watch l G cy _ mo k9 f (xs 1) 1 0) (cwV 3 ht (gv k_561 k_562 k_563 k_314 k_560) rfl rfl rfl (by decide +kernel) ⟨Nat.le_of_ble_eq_true rfl, Nat.le_of_ble_eq_true rfl⟩) ⟨En.blind, va_recv hK hP (ci := 12) (q0 := 0) rfl rfl, fun U hU hW => ⟨rfl, En.of hU hW hP hK hD hN⟩⟩ rfl rfl hl.1 rfl (lv_room (Nat.le_of_ble_eq_true rfl)) dL_law_1032 ⟨Nat.le_of_ble_eq_true rfl, Nat.le_of_ble_eq_true rfl⟩) hS (fun q _ h => hFc q h) hFc (fun r_15 u t H locs ht9 hvm hwr_15 hB hz1 hk1 hS => ?_)
          refine lv_icmp_eq (tgt := 1211) hx hb dL_law_1035 (by decide) (fun _ => ?_) (fun c9 => absurd (hwr_12.1.trans hwr_15.1.symm) c9)
          refine lv_iinc (v := 6) (lv' := [(3, .int 6), (2, .ref mo), (1, .ref x), (0, .ref b)]) hx hb dL_law_1211 hl (k := 0) rfl (by decide) (by decide) rfl (fun ls hl => ?_)
          refine lv_goto (tgt := 18) hx hb dL_law_1214 (by decide) ?_
          refine lv_iload_n hx hb dL_law_18 rfl (lv_at hl 0 rfl) ?_
          refine lv_aload_n hx hb dL_law_19 rfl (lv_at hl 3 rfl) ?_
          refine va_slen hx hb hX hbl hbA hS dL_law_20 ?_
          refine ow_top 6 (by decide +kernel) ?_
          refine lv_bipush (v := 6) hx hb dL_law_21 (by decide) ?_
          refine lv_isub hx hb dL_law_23 ?_
          refine ow_top 0 (by decide +kernel) ?_
          refine lv_icmp_gt (tgt := 1217) hx hb dL_law_24 (by decide) (fun _ => ?_) (fun c9 => absurd (by decide) c9)
          refine lv_iconst (v := 1) hx hb dL_law_1217 (by decide) ?_
          refine va_forget (fun q hq => hS.2.2 q hq) ?_
          refine W.widen (k := 600000) (n := 7302250) (Nat.le_of_ble_eq_true rfl) (Nat.le_of_ble_eq_true rfl) ?_
          exact lw_ret hx hb hr hlocks dL_law_1218
        · exfalso
          have z0 : (0 : Int32).toInt = 0 := (by decide); (try simp only [ow_lt, ow_le, ow_eq, true_and, and_true] at c_11 c_14); omega
    · skip
      refine lv_iconst (v := 1) hx hb dL_law_992 (by decide) ?_
      refine lv_goto (tgt := 997) hx hb dL_law_993 (by decide) ?_
      have hPD := fr_left hP hD
      have hFc := fr_leftF hD hS hA
      refine va_calli (va_runV (As := [.int (xs 1), .int 1, .int 1]) (rest := []) ⟨hx, hb, hml, hown, ht⟩ (x_watch l G cy _ x h (xs 1) 1 1) (cwV 3 ht (gv k_557 k_558 k_559 k_183 k_556) rfl rfl rfl (by decide +kernel) ⟨Nat.le_of_ble_eq_true rfl, Nat.le_of_ble_eq_true rfl⟩) ⟨En.blind, va_recv hK hPD.1 (ci := 11) (q0 := 0) rfl rfl, fun U hU hW => ⟨rfl, En.of hU hW hPD.1 hK hPD.2 hN⟩⟩ rfl rfl hl.1 rfl (lv_room (Nat.le_of_ble_eq_true rfl)) dL_law_997 ⟨Nat.le_of_ble_eq_true rfl, Nat.le_of_ble_eq_true rfl⟩) hS (fun q _ h => hFc q h) hFc (fun r_16 u t H locs ht9 hvm hwr_16 hB hz1 hk1 hS => ?_)
      obtain ⟨hP, hD⟩ := fr_drop hP hD hk1
      refine lv_aload_n hx hb dL_law_1000 rfl (lv_at hl 1 rfl) ?_
      refine lv_aload_n hx hb dL_law_1001 rfl (lv_at hl 3 rfl) ?_
      refine lv_iload_n hx hb dL_law_1002 rfl (lv_at hl 0 rfl) ?_
      refine lv_iconst (v := 1) hx hb dL_law_1003 (by decide) ?_
      refine lv_iadd hx hb dL_law_1004 ?_
      refine ow_top 1 (by decide +kernel) ?_
      refine va_sld hx hb hX hbl hbA hS (in_lit (by decide +kernel)) dL_law_1005 ?_
      refine ow_top (xs 1) rfl ?_
      refine lv_aload_n hx hb dL_law_1006 rfl (lv_at hl 3 rfl) ?_
      refine lv_iload_n hx hb dL_law_1007 rfl (lv_at hl 0 rfl) ?_
      refine lv_iconst (v := 2) hx hb dL_law_1008 (by decide) ?_
      refine lv_iadd hx hb dL_law_1009 ?_
      refine ow_top 2 (by decide +kernel) ?_
      refine va_sld hx hb hX hbl hbA hS (in_lit (by decide +kernel)) dL_law_1010 ?_
      refine ow_top (xs 2) rfl ?_
      refine lv_if_eq (tgt := 1018) hx hb dL_law_1011 (by decide) (fun c_17 => ?_) (fun c_17 => ?_)
      · exfalso
        have z0 : (0 : Int32).toInt = 0 := (by decide); (try simp only [ow_lt, ow_le, ow_eq, true_and, and_true] at c_1 c_17); omega
      · skip
        refine lv_iconst (v := 1) hx hb dL_law_1014 (by decide) ?_
        refine lv_goto (tgt := 1019) hx hb dL_law_1015 (by decide) ?_
        refine lv_aload_n hx hb dL_law_1019 rfl (lv_at hl 3 rfl) ?_
        refine lv_iload_n hx hb dL_law_1020 rfl (lv_at hl 0 rfl) ?_
        refine lv_iconst (v := 3) hx hb dL_law_1021 (by decide) ?_
        refine lv_iadd hx hb dL_law_1022 ?_
        refine ow_top 3 (by decide +kernel) ?_
        refine va_sld hx hb hX hbl hbA hS (in_lit (by decide +kernel)) dL_law_1023 ?_
        refine ow_top (xs 3) rfl ?_
        refine lv_if_eq (tgt := 1031) hx hb dL_law_1024 (by decide) (fun c_18 => ?_) (fun c_18 => ?_)
        · exfalso
          have z0 : (0 : Int32).toInt = 0 := (by decide); (try simp only [ow_lt, ow_le, ow_eq, true_and, and_true] at c_11 c_18); omega
        · skip
          refine lv_iconst (v := 1) hx hb dL_law_1027 (by decide) ?_
          refine lv_goto (tgt := 1032) hx hb dL_law_1028 (by decide) ?_
          have hFc := fr_free hD hS hA
          refine va_calli (va_runV (As := [.int (xs 1), .int 1, .int 1]) (rest := [.int r_16]) ⟨hx, hb, hml, hown, ht⟩ (m_watch l G cy _ mo k9 f (xs 1) 1 1) (cwV 3 ht (gv k_561 k_562 k_563 k_314 k_560) rfl rfl rfl (by decide +kernel) ⟨Nat.le_of_ble_eq_true rfl, Nat.le_of_ble_eq_true rfl⟩) ⟨En.blind, va_recv hK hP (ci := 12) (q0 := 0) rfl rfl, fun U hU hW => ⟨rfl, En.of hU hW hP hK hD hN⟩⟩ rfl rfl hl.1 rfl (lv_room (Nat.le_of_ble_eq_true rfl)) dL_law_1032 ⟨Nat.le_of_ble_eq_true rfl, Nat.le_of_ble_eq_true rfl⟩) hS (fun q _ h => hFc q h) hFc (fun r_19 u t H locs ht9 hvm hwr_19 hB hz1 hk1 hS => ?_)
          refine lv_icmp_eq (tgt := 1211) hx hb dL_law_1035 (by decide) (fun _ => ?_) (fun c9 => absurd (hwr_16.1.trans hwr_19.1.symm) c9)
          refine lv_iinc (v := 6) (lv' := [(3, .int 6), (2, .ref mo), (1, .ref x), (0, .ref b)]) hx hb dL_law_1211 hl (k := 0) rfl (by decide) (by decide) rfl (fun ls hl => ?_)
          refine lv_goto (tgt := 18) hx hb dL_law_1214 (by decide) ?_
          refine lv_iload_n hx hb dL_law_18 rfl (lv_at hl 0 rfl) ?_
          refine lv_aload_n hx hb dL_law_19 rfl (lv_at hl 3 rfl) ?_
          refine va_slen hx hb hX hbl hbA hS dL_law_20 ?_
          refine ow_top 6 (by decide +kernel) ?_
          refine lv_bipush (v := 6) hx hb dL_law_21 (by decide) ?_
          refine lv_isub hx hb dL_law_23 ?_
          refine ow_top 0 (by decide +kernel) ?_
          refine lv_icmp_gt (tgt := 1217) hx hb dL_law_24 (by decide) (fun _ => ?_) (fun c9 => absurd (by decide) c9)
          refine lv_iconst (v := 1) hx hb dL_law_1217 (by decide) ?_
          refine va_forget (fun q hq => hS.2.2 q hq) ?_
          refine W.widen (k := 600000) (n := 7302250) (Nat.le_of_ble_eq_true rfl) (Nat.le_of_ble_eq_true rfl) ?_
          exact lw_ret hx hb hr hlocks dL_law_1218
set_option maxHeartbeats 4000000 in
set_option maxRecDepth 100000 in
theorem law_24 {p : Program} {e : Env} {s : State} {m : MethodId} {below : List Frame} {meth : Method} {c : Code} (l : Launch) {b : Nat} {xs : Nat → Int32} {G : va_G} {cy : Nat → ClassId} {x mo : Nat} {h k9 : Nat → Nat} {f : Nat → Nat → Int32} (hbm : ∀ k, k < 3 → f 2 k = -1) (hx : p.tables.exec = Jvm.exec) (hb : c.code = code) (hr : meth.sig.returnType = ret) (hml : c.maxLocals = 4) (hown : s.vm.findClass RL = some m.cls) (ht : ∀ w ∈ TBg, w.before #[Value.ref b] s = true) (hX : va_X b 6 xs s s.heap) (hbl : b < s.heap.size) (hlocks : meth.locks = false) (hK : va_K G vwCl (TY cy) s) (hN : NK s) {tsw : Nat} (hSW : SWt tsw (fun q : Nat => s.heap.size ≤ q) s) {H : Heap} {locs : List Loc} (hP : va_P G vwCl (WX cy x h ++ WM cy mo k9 f) H) (hD : va_D (fun q : Nat => s.heap.size ≤ q) (WX cy x h ++ WM cy mo k9 f)) (hS : va_S (fun q : Nat => s.heap.size ≤ q) s.heap H locs) {ls : Array Slot} (hl : lv_has ls 4 [(3, .int 0), (2, .ref mo), (1, .ref x), (0, .ref b)]) : W p l e room_1 s m #[Value.ref b] below meth c H locs 1000 40000 (lw_Z below #[Value.ref b] s) (F0 m 1040 ls []) := by
  have hA : ∀ q : Nat, s.heap.size ≤ q → (fun q : Nat => s.heap.size ≤ q) q := fun _ h => h
  have hbA : ¬ (fun q : Nat => s.heap.size ≤ q) b := Nat.not_le.mpr hbl
  refine lv_aload_n hx hb dL_law_1040 rfl (lv_at hl 2 rfl) ?_
  refine lv_aload_n hx hb dL_law_1041 rfl (lv_at hl 3 rfl) ?_
  refine lv_iload_n hx hb dL_law_1042 rfl (lv_at hl 0 rfl) ?_
  refine lv_iconst (v := 1) hx hb dL_law_1043 (by decide) ?_
  refine lv_iadd hx hb dL_law_1044 ?_
  refine ow_top 1 (by decide +kernel) ?_
  refine va_sld hx hb hX hbl hbA hS (in_lit (by decide +kernel)) dL_law_1045 ?_
  refine ow_top (xs 1) rfl ?_
  have hPD := fr_left hP hD
  have hFc := fr_leftF hD hS hA
  refine va_calli (va_runV (As := [.int (xs 1)]) (rest := []) ⟨hx, hb, hml, hown, ht⟩ (x_untell l G cy _ x h (xs 1)) (cwV 1 ht (gv k_565 k_566 k_567 k_183 k_564) rfl rfl rfl (by decide +kernel) ⟨Nat.le_of_ble_eq_true rfl, Nat.le_of_ble_eq_true rfl⟩) ⟨En.blind, va_recv hK hPD.1 (ci := 11) (q0 := 0) rfl rfl, fun U hU hW => ⟨rfl, En.of hU hW hPD.1 hK hPD.2 hN⟩⟩ rfl rfl hl.1 rfl (lv_room (Nat.le_of_ble_eq_true rfl)) dL_law_1046 ⟨Nat.le_of_ble_eq_true rfl, Nat.le_of_ble_eq_true rfl⟩) hS (fun q _ h => hFc q h) hFc (fun r_1 u t H locs ht9 hvm hwr_1 hB hz1 hk1 hS => ?_)
  obtain ⟨hP, hD⟩ := fr_drop hP hD hk1
  refine lv_aload_n hx hb dL_law_1049 rfl (lv_at hl 1 rfl) ?_
  refine lv_aload_n hx hb dL_law_1050 rfl (lv_at hl 3 rfl) ?_
  refine lv_iload_n hx hb dL_law_1051 rfl (lv_at hl 0 rfl) ?_
  refine lv_iconst (v := 1) hx hb dL_law_1052 (by decide) ?_
  refine lv_iadd hx hb dL_law_1053 ?_
  refine ow_top 1 (by decide +kernel) ?_
  refine va_sld hx hb hX hbl hbA hS (in_lit (by decide +kernel)) dL_law_1054 ?_
  refine ow_top (xs 1) rfl ?_
  have hFc := fr_free hD hS hA
  refine va_calli (va_runV (As := [.int (xs 1)]) (rest := [.int r_1]) ⟨hx, hb, hml, hown, ht⟩ (m_untell l G cy _ mo k9 f (xs 1)) (cwV 1 ht (gv k_569 k_570 k_571 k_314 k_568) rfl rfl rfl (by decide +kernel) ⟨Nat.le_of_ble_eq_true rfl, Nat.le_of_ble_eq_true rfl⟩) ⟨En.blind, va_recv hK hP (ci := 12) (q0 := 0) rfl rfl, fun U hU hW => ⟨rfl, En.of hU hW hP hK hD hN⟩⟩ rfl rfl hl.1 rfl (lv_room (Nat.le_of_ble_eq_true rfl)) dL_law_1055 ⟨Nat.le_of_ble_eq_true rfl, Nat.le_of_ble_eq_true rfl⟩) hS (fun q _ h => hFc q h) hFc (fun r_2 u t H locs ht9 hvm hwr_2 hB hz1 hk1 hS => ?_)
  refine lv_icmp_eq (tgt := 1211) hx hb dL_law_1058 (by decide) (fun _ => ?_) (fun c9 => absurd (hwr_1.1.trans hwr_2.1.symm) c9)
  refine lv_iinc (v := 6) (lv' := [(3, .int 6), (2, .ref mo), (1, .ref x), (0, .ref b)]) hx hb dL_law_1211 hl (k := 0) rfl (by decide) (by decide) rfl (fun ls hl => ?_)
  refine lv_goto (tgt := 18) hx hb dL_law_1214 (by decide) ?_
  refine lv_iload_n hx hb dL_law_18 rfl (lv_at hl 0 rfl) ?_
  refine lv_aload_n hx hb dL_law_19 rfl (lv_at hl 3 rfl) ?_
  refine va_slen hx hb hX hbl hbA hS dL_law_20 ?_
  refine ow_top 6 (by decide +kernel) ?_
  refine lv_bipush (v := 6) hx hb dL_law_21 (by decide) ?_
  refine lv_isub hx hb dL_law_23 ?_
  refine ow_top 0 (by decide +kernel) ?_
  refine lv_icmp_gt (tgt := 1217) hx hb dL_law_24 (by decide) (fun _ => ?_) (fun c9 => absurd (by decide) c9)
  refine lv_iconst (v := 1) hx hb dL_law_1217 (by decide) ?_
  refine va_forget (fun q hq => hS.2.2 q hq) ?_
  refine W.widen (k := 600000) (n := 7302250) (Nat.le_of_ble_eq_true rfl) (Nat.le_of_ble_eq_true rfl) ?_
  exact lw_ret hx hb hr hlocks dL_law_1218
set_option maxHeartbeats 4000000 in
set_option maxRecDepth 100000 in
theorem law_25 {p : Program} {e : Env} {s : State} {m : MethodId} {below : List Frame} {meth : Method} {c : Code} (l : Launch) {b : Nat} {xs : Nat → Int32} {G : va_G} {cy : Nat → ClassId} {x mo : Nat} {h k9 : Nat → Nat} {f : Nat → Nat → Int32} (hbm : ∀ k, k < 3 → f 2 k = -1) (hx : p.tables.exec = Jvm.exec) (hb : c.code = code) (hr : meth.sig.returnType = ret) (hml : c.maxLocals = 4) (hown : s.vm.findClass RL = some m.cls) (ht : ∀ w ∈ TBg, w.before #[Value.ref b] s = true) (hX : va_X b 6 xs s s.heap) (hbl : b < s.heap.size) (hlocks : meth.locks = false) (hK : va_K G vwCl (TY cy) s) (hN : NK s) {tsw : Nat} (hSW : SWt tsw (fun q : Nat => s.heap.size ≤ q) s) {H : Heap} {locs : List Loc} (hP : va_P G vwCl (WX cy x h ++ WM cy mo k9 f) H) (hD : va_D (fun q : Nat => s.heap.size ≤ q) (WX cy x h ++ WM cy mo k9 f)) (hS : va_S (fun q : Nat => s.heap.size ≤ q) s.heap H locs) {ls : Array Slot} (hl : lv_has ls 4 [(3, .int 0), (2, .ref mo), (1, .ref x), (0, .ref b)]) : W p l e room_1 s m #[Value.ref b] below meth c H locs 1000 40000 (lw_Z below #[Value.ref b] s) (F0 m 1063 ls []) := by
  have hA : ∀ q : Nat, s.heap.size ≤ q → (fun q : Nat => s.heap.size ≤ q) q := fun _ h => h
  have hbA : ¬ (fun q : Nat => s.heap.size ≤ q) b := Nat.not_le.mpr hbl
  refine lv_aload_n hx hb dL_law_1063 rfl (lv_at hl 2 rfl) ?_
  refine lv_aload_n hx hb dL_law_1064 rfl (lv_at hl 3 rfl) ?_
  refine lv_iload_n hx hb dL_law_1065 rfl (lv_at hl 0 rfl) ?_
  refine lv_iconst (v := 1) hx hb dL_law_1066 (by decide) ?_
  refine lv_iadd hx hb dL_law_1067 ?_
  refine ow_top 1 (by decide +kernel) ?_
  refine va_sld hx hb hX hbl hbA hS (in_lit (by decide +kernel)) dL_law_1068 ?_
  refine ow_top (xs 1) rfl ?_
  have hPD := fr_left hP hD
  have hFc := fr_leftF hD hS hA
  refine va_calli (va_runV (As := [.int (xs 1)]) (rest := []) ⟨hx, hb, hml, hown, ht⟩ (x_later l G cy _ x h (xs 1)) (cwV 1 ht (gv k_573 k_574 k_575 k_183 k_572) rfl rfl rfl (by decide +kernel) ⟨Nat.le_of_ble_eq_true rfl, Nat.le_of_ble_eq_true rfl⟩) ⟨En.blind, va_recv hK hPD.1 (ci := 11) (q0 := 0) rfl rfl, fun U hU hW => ⟨rfl, En.of hU hW hPD.1 hK hPD.2 hN⟩⟩ rfl rfl hl.1 rfl (lv_room (Nat.le_of_ble_eq_true rfl)) dL_law_1069 ⟨Nat.le_of_ble_eq_true rfl, Nat.le_of_ble_eq_true rfl⟩) hS (fun q _ h => hFc q h) hFc (fun r_1 u t H locs ht9 hvm hwr_1 hB hz1 hk1 hS => ?_)
  obtain ⟨hP, hD⟩ := fr_drop hP hD hk1
  refine lv_aload_n hx hb dL_law_1072 rfl (lv_at hl 1 rfl) ?_
  refine lv_aload_n hx hb dL_law_1073 rfl (lv_at hl 3 rfl) ?_
  refine lv_iload_n hx hb dL_law_1074 rfl (lv_at hl 0 rfl) ?_
  refine lv_iconst (v := 1) hx hb dL_law_1075 (by decide) ?_
  refine lv_iadd hx hb dL_law_1076 ?_
  refine ow_top 1 (by decide +kernel) ?_
  refine va_sld hx hb hX hbl hbA hS (in_lit (by decide +kernel)) dL_law_1077 ?_
  refine ow_top (xs 1) rfl ?_
  have hFc := fr_free hD hS hA
  refine va_calli (va_runV (As := [.int (xs 1)]) (rest := [.int r_1]) ⟨hx, hb, hml, hown, ht⟩ (m_later l G cy _ mo k9 f (xs 1)) (cwV 1 ht (gv k_577 k_578 k_579 k_314 k_576) rfl rfl rfl (by decide +kernel) ⟨Nat.le_of_ble_eq_true rfl, Nat.le_of_ble_eq_true rfl⟩) ⟨En.blind, va_recv hK hP (ci := 12) (q0 := 0) rfl rfl, fun U hU hW => ⟨rfl, En.of hU hW hP hK hD hN⟩⟩ rfl rfl hl.1 rfl (lv_room (Nat.le_of_ble_eq_true rfl)) dL_law_1078 ⟨Nat.le_of_ble_eq_true rfl, Nat.le_of_ble_eq_true rfl⟩) hS (fun q _ h => hFc q h) hFc (fun r_2 u t H locs ht9 hvm hwr_2 hB hz1 hk1 hS => ?_)
  refine lv_icmp_eq (tgt := 1211) hx hb dL_law_1081 (by decide) (fun _ => ?_) (fun c9 => absurd (hwr_1.1.trans hwr_2.1.symm) c9)
  refine lv_iinc (v := 6) (lv' := [(3, .int 6), (2, .ref mo), (1, .ref x), (0, .ref b)]) hx hb dL_law_1211 hl (k := 0) rfl (by decide) (by decide) rfl (fun ls hl => ?_)
  refine lv_goto (tgt := 18) hx hb dL_law_1214 (by decide) ?_
  refine lv_iload_n hx hb dL_law_18 rfl (lv_at hl 0 rfl) ?_
  refine lv_aload_n hx hb dL_law_19 rfl (lv_at hl 3 rfl) ?_
  refine va_slen hx hb hX hbl hbA hS dL_law_20 ?_
  refine ow_top 6 (by decide +kernel) ?_
  refine lv_bipush (v := 6) hx hb dL_law_21 (by decide) ?_
  refine lv_isub hx hb dL_law_23 ?_
  refine ow_top 0 (by decide +kernel) ?_
  refine lv_icmp_gt (tgt := 1217) hx hb dL_law_24 (by decide) (fun _ => ?_) (fun c9 => absurd (by decide) c9)
  refine lv_iconst (v := 1) hx hb dL_law_1217 (by decide) ?_
  refine va_forget (fun q hq => hS.2.2 q hq) ?_
  refine W.widen (k := 600000) (n := 7302250) (Nat.le_of_ble_eq_true rfl) (Nat.le_of_ble_eq_true rfl) ?_
  exact lw_ret hx hb hr hlocks dL_law_1218
set_option maxHeartbeats 4000000 in
set_option maxRecDepth 100000 in
theorem law_26 {p : Program} {e : Env} {s : State} {m : MethodId} {below : List Frame} {meth : Method} {c : Code} (l : Launch) {b : Nat} {xs : Nat → Int32} {G : va_G} {cy : Nat → ClassId} {x mo : Nat} {h k9 : Nat → Nat} {f : Nat → Nat → Int32} (hbm : ∀ k, k < 3 → f 2 k = -1) (hx : p.tables.exec = Jvm.exec) (hb : c.code = code) (hr : meth.sig.returnType = ret) (hml : c.maxLocals = 4) (hown : s.vm.findClass RL = some m.cls) (ht : ∀ w ∈ TBg, w.before #[Value.ref b] s = true) (hX : va_X b 6 xs s s.heap) (hbl : b < s.heap.size) (hlocks : meth.locks = false) (hK : va_K G vwCl (TY cy) s) (hN : NK s) {tsw : Nat} (hSW : SWt tsw (fun q : Nat => s.heap.size ≤ q) s) {H : Heap} {locs : List Loc} (hP : va_P G vwCl (WX cy x h ++ WM cy mo k9 f) H) (hD : va_D (fun q : Nat => s.heap.size ≤ q) (WX cy x h ++ WM cy mo k9 f)) (hS : va_S (fun q : Nat => s.heap.size ≤ q) s.heap H locs) {ls : Array Slot} (hl : lv_has ls 4 [(3, .int 0), (2, .ref mo), (1, .ref x), (0, .ref b)]) : W p l e room_1 s m #[Value.ref b] below meth c H locs 1000 40000 (lw_Z below #[Value.ref b] s) (F0 m 1086 ls []) := by
  have hA : ∀ q : Nat, s.heap.size ≤ q → (fun q : Nat => s.heap.size ≤ q) q := fun _ h => h
  have hbA : ¬ (fun q : Nat => s.heap.size ≤ q) b := Nat.not_le.mpr hbl
  refine lv_aload_n hx hb dL_law_1086 rfl (lv_at hl 2 rfl) ?_
  refine lv_aload_n hx hb dL_law_1087 rfl (lv_at hl 3 rfl) ?_
  refine lv_iload_n hx hb dL_law_1088 rfl (lv_at hl 0 rfl) ?_
  refine lv_iconst (v := 1) hx hb dL_law_1089 (by decide) ?_
  refine lv_iadd hx hb dL_law_1090 ?_
  refine ow_top 1 (by decide +kernel) ?_
  refine va_sld hx hb hX hbl hbA hS (in_lit (by decide +kernel)) dL_law_1091 ?_
  refine ow_top (xs 1) rfl ?_
  have hPD := fr_left hP hD
  have hFc := fr_leftF hD hS hA
  refine va_calli (va_runV (As := [.int (xs 1)]) (rest := []) ⟨hx, hb, hml, hown, ht⟩ (x_left l G cy _ x h (xs 1)) (cwV 1 ht (gv k_581 k_582 k_583 k_183 k_580) rfl rfl rfl (by decide +kernel) ⟨Nat.le_of_ble_eq_true rfl, Nat.le_of_ble_eq_true rfl⟩) ⟨En.blind, va_recv hK hPD.1 (ci := 11) (q0 := 0) rfl rfl, fun U hU hW => ⟨rfl, En.of hU hW hPD.1 hK hPD.2 hN⟩⟩ rfl rfl hl.1 rfl (lv_room (Nat.le_of_ble_eq_true rfl)) dL_law_1092 ⟨Nat.le_of_ble_eq_true rfl, Nat.le_of_ble_eq_true rfl⟩) hS (fun q _ h => hFc q h) hFc (fun r_1 u t H locs ht9 hvm hwr_1 hB hz1 hk1 hS => ?_)
  obtain ⟨hP, hD⟩ := fr_drop hP hD hk1
  refine lv_aload_n hx hb dL_law_1095 rfl (lv_at hl 1 rfl) ?_
  refine lv_aload_n hx hb dL_law_1096 rfl (lv_at hl 3 rfl) ?_
  refine lv_iload_n hx hb dL_law_1097 rfl (lv_at hl 0 rfl) ?_
  refine lv_iconst (v := 1) hx hb dL_law_1098 (by decide) ?_
  refine lv_iadd hx hb dL_law_1099 ?_
  refine ow_top 1 (by decide +kernel) ?_
  refine va_sld hx hb hX hbl hbA hS (in_lit (by decide +kernel)) dL_law_1100 ?_
  refine ow_top (xs 1) rfl ?_
  have hFc := fr_free hD hS hA
  refine va_calli (va_runV (As := [.int (xs 1)]) (rest := [.int r_1]) ⟨hx, hb, hml, hown, ht⟩ (m_left l G cy _ mo k9 f (xs 1)) (cwV 1 ht (gv k_584 k_362 k_363 k_314 k_360) rfl rfl rfl (by decide +kernel) ⟨Nat.le_of_ble_eq_true rfl, Nat.le_of_ble_eq_true rfl⟩) ⟨En.blind, va_recv hK hP (ci := 12) (q0 := 0) rfl rfl, fun U hU hW => ⟨rfl, En.of hU hW hP hK hD hN⟩⟩ rfl rfl hl.1 rfl (lv_room (Nat.le_of_ble_eq_true rfl)) dL_law_1101 ⟨Nat.le_of_ble_eq_true rfl, Nat.le_of_ble_eq_true rfl⟩) hS (fun q _ h => hFc q h) hFc (fun r_2 u t H locs ht9 hvm hwr_2 hB hz1 hk1 hS => ?_)
  refine lv_icmp_eq (tgt := 1211) hx hb dL_law_1104 (by decide) (fun _ => ?_) (fun c9 => absurd (hwr_1.1.trans hwr_2.1.symm) c9)
  refine lv_iinc (v := 6) (lv' := [(3, .int 6), (2, .ref mo), (1, .ref x), (0, .ref b)]) hx hb dL_law_1211 hl (k := 0) rfl (by decide) (by decide) rfl (fun ls hl => ?_)
  refine lv_goto (tgt := 18) hx hb dL_law_1214 (by decide) ?_
  refine lv_iload_n hx hb dL_law_18 rfl (lv_at hl 0 rfl) ?_
  refine lv_aload_n hx hb dL_law_19 rfl (lv_at hl 3 rfl) ?_
  refine va_slen hx hb hX hbl hbA hS dL_law_20 ?_
  refine ow_top 6 (by decide +kernel) ?_
  refine lv_bipush (v := 6) hx hb dL_law_21 (by decide) ?_
  refine lv_isub hx hb dL_law_23 ?_
  refine ow_top 0 (by decide +kernel) ?_
  refine lv_icmp_gt (tgt := 1217) hx hb dL_law_24 (by decide) (fun _ => ?_) (fun c9 => absurd (by decide) c9)
  refine lv_iconst (v := 1) hx hb dL_law_1217 (by decide) ?_
  refine va_forget (fun q hq => hS.2.2 q hq) ?_
  refine W.widen (k := 600000) (n := 7302250) (Nat.le_of_ble_eq_true rfl) (Nat.le_of_ble_eq_true rfl) ?_
  exact lw_ret hx hb hr hlocks dL_law_1218
set_option maxHeartbeats 4000000 in
set_option maxRecDepth 100000 in
theorem law_27 {p : Program} {e : Env} {s : State} {m : MethodId} {below : List Frame} {meth : Method} {c : Code} (l : Launch) {b : Nat} {xs : Nat → Int32} {G : va_G} {cy : Nat → ClassId} {x mo : Nat} {h k9 : Nat → Nat} {f : Nat → Nat → Int32} (hbm : ∀ k, k < 3 → f 2 k = -1) (hx : p.tables.exec = Jvm.exec) (hb : c.code = code) (hr : meth.sig.returnType = ret) (hml : c.maxLocals = 4) (hown : s.vm.findClass RL = some m.cls) (ht : ∀ w ∈ TBg, w.before #[Value.ref b] s = true) (hX : va_X b 6 xs s s.heap) (hbl : b < s.heap.size) (hlocks : meth.locks = false) (hK : va_K G vwCl (TY cy) s) (hN : NK s) {tsw : Nat} (hSW : SWt tsw (fun q : Nat => s.heap.size ≤ q) s) {H : Heap} {locs : List Loc} (hP : va_P G vwCl (WX cy x h ++ WM cy mo k9 f) H) (hD : va_D (fun q : Nat => s.heap.size ≤ q) (WX cy x h ++ WM cy mo k9 f)) (hS : va_S (fun q : Nat => s.heap.size ≤ q) s.heap H locs) {ls : Array Slot} (hl : lv_has ls 4 [(3, .int 0), (2, .ref mo), (1, .ref x), (0, .ref b)]) : W p l e room_1 s m #[Value.ref b] below meth c H locs 1000 40000 (lw_Z below #[Value.ref b] s) (F0 m 1109 ls []) := by
  have hA : ∀ q : Nat, s.heap.size ≤ q → (fun q : Nat => s.heap.size ≤ q) q := fun _ h => h
  have hbA : ¬ (fun q : Nat => s.heap.size ≤ q) b := Nat.not_le.mpr hbl
  refine lv_aload_n hx hb dL_law_1109 rfl (lv_at hl 2 rfl) ?_
  refine lv_aload_n hx hb dL_law_1110 rfl (lv_at hl 3 rfl) ?_
  refine lv_iload_n hx hb dL_law_1111 rfl (lv_at hl 0 rfl) ?_
  refine lv_iconst (v := 1) hx hb dL_law_1112 (by decide) ?_
  refine lv_iadd hx hb dL_law_1113 ?_
  refine ow_top 1 (by decide +kernel) ?_
  refine va_sld hx hb hX hbl hbA hS (in_lit (by decide +kernel)) dL_law_1114 ?_
  refine ow_top (xs 1) rfl ?_
  refine lv_aload_n hx hb dL_law_1115 rfl (lv_at hl 3 rfl) ?_
  refine lv_iload_n hx hb dL_law_1116 rfl (lv_at hl 0 rfl) ?_
  refine lv_iconst (v := 2) hx hb dL_law_1117 (by decide) ?_
  refine lv_iadd hx hb dL_law_1118 ?_
  refine ow_top 2 (by decide +kernel) ?_
  refine va_sld hx hb hX hbl hbA hS (in_lit (by decide +kernel)) dL_law_1119 ?_
  refine ow_top (xs 2) rfl ?_
  have hPD := fr_left hP hD
  have hFc := fr_leftF hD hS hA
  refine va_calli (va_runV (As := [.int (xs 1), .int (xs 2)]) (rest := []) ⟨hx, hb, hml, hown, ht⟩ (x_next l G cy _ x h (xs 1) (xs 2)) (cwV 2 ht (gv k_586 k_587 k_588 k_183 k_585) rfl rfl rfl (by decide +kernel) ⟨Nat.le_of_ble_eq_true rfl, Nat.le_of_ble_eq_true rfl⟩) ⟨En.blind, va_recv hK hPD.1 (ci := 11) (q0 := 0) rfl rfl, fun U hU hW => ⟨rfl, En.of hU hW hPD.1 hK hPD.2 hN⟩⟩ rfl rfl hl.1 rfl (lv_room (Nat.le_of_ble_eq_true rfl)) dL_law_1120 ⟨Nat.le_of_ble_eq_true rfl, Nat.le_of_ble_eq_true rfl⟩) hS (fun q _ h => hFc q h) hFc (fun r_1 u t H locs ht9 hvm hwr_1 hB hz1 hk1 hS => ?_)
  obtain ⟨hP, hD⟩ := fr_drop hP hD hk1
  refine lv_aload_n hx hb dL_law_1123 rfl (lv_at hl 1 rfl) ?_
  refine lv_aload_n hx hb dL_law_1124 rfl (lv_at hl 3 rfl) ?_
  refine lv_iload_n hx hb dL_law_1125 rfl (lv_at hl 0 rfl) ?_
  refine lv_iconst (v := 1) hx hb dL_law_1126 (by decide) ?_
  refine lv_iadd hx hb dL_law_1127 ?_
  refine ow_top 1 (by decide +kernel) ?_
  refine va_sld hx hb hX hbl hbA hS (in_lit (by decide +kernel)) dL_law_1128 ?_
  refine ow_top (xs 1) rfl ?_
  refine lv_aload_n hx hb dL_law_1129 rfl (lv_at hl 3 rfl) ?_
  refine lv_iload_n hx hb dL_law_1130 rfl (lv_at hl 0 rfl) ?_
  refine lv_iconst (v := 2) hx hb dL_law_1131 (by decide) ?_
  refine lv_iadd hx hb dL_law_1132 ?_
  refine ow_top 2 (by decide +kernel) ?_
  refine va_sld hx hb hX hbl hbA hS (in_lit (by decide +kernel)) dL_law_1133 ?_
  refine ow_top (xs 2) rfl ?_
  have hFc := fr_free hD hS hA
  refine va_calli (va_runV (As := [.int (xs 1), .int (xs 2)]) (rest := [.int r_1]) ⟨hx, hb, hml, hown, ht⟩ (m_next l G cy _ mo k9 f (xs 1) (xs 2)) (cwV 2 ht (gv k_590 k_591 k_592 k_314 k_589) rfl rfl rfl (by decide +kernel) ⟨Nat.le_of_ble_eq_true rfl, Nat.le_of_ble_eq_true rfl⟩) ⟨En.blind, va_recv hK hP (ci := 12) (q0 := 0) rfl rfl, fun U hU hW => ⟨rfl, En.of hU hW hP hK hD hN⟩⟩ rfl rfl hl.1 rfl (lv_room (Nat.le_of_ble_eq_true rfl)) dL_law_1134 ⟨Nat.le_of_ble_eq_true rfl, Nat.le_of_ble_eq_true rfl⟩) hS (fun q _ h => hFc q h) hFc (fun r_2 u t H locs ht9 hvm hwr_2 hB hz1 hk1 hS => ?_)
  refine lv_icmp_eq (tgt := 1211) hx hb dL_law_1137 (by decide) (fun _ => ?_) (fun c9 => absurd (hwr_1.1.trans hwr_2.1.symm) c9)
  refine lv_iinc (v := 6) (lv' := [(3, .int 6), (2, .ref mo), (1, .ref x), (0, .ref b)]) hx hb dL_law_1211 hl (k := 0) rfl (by decide) (by decide) rfl (fun ls hl => ?_)
  refine lv_goto (tgt := 18) hx hb dL_law_1214 (by decide) ?_
  refine lv_iload_n hx hb dL_law_18 rfl (lv_at hl 0 rfl) ?_
  refine lv_aload_n hx hb dL_law_19 rfl (lv_at hl 3 rfl) ?_
  refine va_slen hx hb hX hbl hbA hS dL_law_20 ?_
  refine ow_top 6 (by decide +kernel) ?_
  refine lv_bipush (v := 6) hx hb dL_law_21 (by decide) ?_
  refine lv_isub hx hb dL_law_23 ?_
  refine ow_top 0 (by decide +kernel) ?_
  refine lv_icmp_gt (tgt := 1217) hx hb dL_law_24 (by decide) (fun _ => ?_) (fun c9 => absurd (by decide) c9)
  refine lv_iconst (v := 1) hx hb dL_law_1217 (by decide) ?_
  refine va_forget (fun q hq => hS.2.2 q hq) ?_
  refine W.widen (k := 600000) (n := 7302250) (Nat.le_of_ble_eq_true rfl) (Nat.le_of_ble_eq_true rfl) ?_
  exact lw_ret hx hb hr hlocks dL_law_1218
set_option maxHeartbeats 4000000 in
set_option maxRecDepth 100000 in
theorem law_28 {p : Program} {e : Env} {s : State} {m : MethodId} {below : List Frame} {meth : Method} {c : Code} (l : Launch) {b : Nat} {xs : Nat → Int32} {G : va_G} {cy : Nat → ClassId} {x mo : Nat} {h k9 : Nat → Nat} {f : Nat → Nat → Int32} (hbm : ∀ k, k < 3 → f 2 k = -1) (hx : p.tables.exec = Jvm.exec) (hb : c.code = code) (hr : meth.sig.returnType = ret) (hml : c.maxLocals = 4) (hown : s.vm.findClass RL = some m.cls) (ht : ∀ w ∈ TBg, w.before #[Value.ref b] s = true) (hX : va_X b 6 xs s s.heap) (hbl : b < s.heap.size) (hlocks : meth.locks = false) (hK : va_K G vwCl (TY cy) s) (hN : NK s) {tsw : Nat} (hSW : SWt tsw (fun q : Nat => s.heap.size ≤ q) s) {H : Heap} {locs : List Loc} (hP : va_P G vwCl (WX cy x h ++ WM cy mo k9 f) H) (hD : va_D (fun q : Nat => s.heap.size ≤ q) (WX cy x h ++ WM cy mo k9 f)) (hS : va_S (fun q : Nat => s.heap.size ≤ q) s.heap H locs) {ls : Array Slot} (hl : lv_has ls 4 [(3, .int 0), (2, .ref mo), (1, .ref x), (0, .ref b)]) : W p l e room_1 s m #[Value.ref b] below meth c H locs 1000 40000 (lw_Z below #[Value.ref b] s) (F0 m 1142 ls []) := by
  have hA : ∀ q : Nat, s.heap.size ≤ q → (fun q : Nat => s.heap.size ≤ q) q := fun _ h => h
  have hbA : ¬ (fun q : Nat => s.heap.size ≤ q) b := Nat.not_le.mpr hbl
  refine lv_aload_n hx hb dL_law_1142 rfl (lv_at hl 2 rfl) ?_
  refine lv_aload_n hx hb dL_law_1143 rfl (lv_at hl 3 rfl) ?_
  refine lv_iload_n hx hb dL_law_1144 rfl (lv_at hl 0 rfl) ?_
  refine lv_iconst (v := 1) hx hb dL_law_1145 (by decide) ?_
  refine lv_iadd hx hb dL_law_1146 ?_
  refine ow_top 1 (by decide +kernel) ?_
  refine va_sld hx hb hX hbl hbA hS (in_lit (by decide +kernel)) dL_law_1147 ?_
  refine ow_top (xs 1) rfl ?_
  have hPD := fr_left hP hD
  have hFc := fr_leftF hD hS hA
  refine va_calli (va_runV (As := [.int (xs 1)]) (rest := []) ⟨hx, hb, hml, hown, ht⟩ (x_image l G cy _ x h (xs 1)) (cwV 1 ht (gv k_594 k_595 k_596 k_183 k_593) rfl rfl rfl (by decide +kernel) ⟨Nat.le_of_ble_eq_true rfl, Nat.le_of_ble_eq_true rfl⟩) ⟨En.blind, va_recv hK hPD.1 (ci := 11) (q0 := 0) rfl rfl, fun U hU hW => ⟨rfl, En.of hU hW hPD.1 hK hPD.2 hN⟩⟩ rfl rfl hl.1 rfl (lv_room (Nat.le_of_ble_eq_true rfl)) dL_law_1148 ⟨Nat.le_of_ble_eq_true rfl, Nat.le_of_ble_eq_true rfl⟩) hS (fun q _ h => hFc q h) hFc (fun r_1 u t H locs ht9 hvm hwr_1 hB hz1 hk1 hS => ?_)
  obtain ⟨hP, hD⟩ := fr_drop hP hD hk1
  refine lv_aload_n hx hb dL_law_1151 rfl (lv_at hl 1 rfl) ?_
  refine lv_aload_n hx hb dL_law_1152 rfl (lv_at hl 3 rfl) ?_
  refine lv_iload_n hx hb dL_law_1153 rfl (lv_at hl 0 rfl) ?_
  refine lv_iconst (v := 1) hx hb dL_law_1154 (by decide) ?_
  refine lv_iadd hx hb dL_law_1155 ?_
  refine ow_top 1 (by decide +kernel) ?_
  refine va_sld hx hb hX hbl hbA hS (in_lit (by decide +kernel)) dL_law_1156 ?_
  refine ow_top (xs 1) rfl ?_
  have hFc := fr_free hD hS hA
  refine va_calli (va_runV (As := [.int (xs 1)]) (rest := [.int r_1]) ⟨hx, hb, hml, hown, ht⟩ (m_image l G cy _ mo k9 f (xs 1)) (cwV 1 ht (gv k_598 k_599 k_600 k_314 k_597) rfl rfl rfl (by decide +kernel) ⟨Nat.le_of_ble_eq_true rfl, Nat.le_of_ble_eq_true rfl⟩) ⟨En.blind, va_recv hK hP (ci := 12) (q0 := 0) rfl rfl, fun U hU hW => ⟨rfl, En.of hU hW hP hK hD hN⟩⟩ rfl rfl hl.1 rfl (lv_room (Nat.le_of_ble_eq_true rfl)) dL_law_1157 ⟨Nat.le_of_ble_eq_true rfl, Nat.le_of_ble_eq_true rfl⟩) hS (fun q _ h => hFc q h) hFc (fun r_2 u t H locs ht9 hvm hwr_2 hB hz1 hk1 hS => ?_)
  refine lv_icmp_eq (tgt := 1211) hx hb dL_law_1160 (by decide) (fun _ => ?_) (fun c9 => absurd (hwr_1.1.trans hwr_2.1.symm) c9)
  refine lv_iinc (v := 6) (lv' := [(3, .int 6), (2, .ref mo), (1, .ref x), (0, .ref b)]) hx hb dL_law_1211 hl (k := 0) rfl (by decide) (by decide) rfl (fun ls hl => ?_)
  refine lv_goto (tgt := 18) hx hb dL_law_1214 (by decide) ?_
  refine lv_iload_n hx hb dL_law_18 rfl (lv_at hl 0 rfl) ?_
  refine lv_aload_n hx hb dL_law_19 rfl (lv_at hl 3 rfl) ?_
  refine va_slen hx hb hX hbl hbA hS dL_law_20 ?_
  refine ow_top 6 (by decide +kernel) ?_
  refine lv_bipush (v := 6) hx hb dL_law_21 (by decide) ?_
  refine lv_isub hx hb dL_law_23 ?_
  refine ow_top 0 (by decide +kernel) ?_
  refine lv_icmp_gt (tgt := 1217) hx hb dL_law_24 (by decide) (fun _ => ?_) (fun c9 => absurd (by decide) c9)
  refine lv_iconst (v := 1) hx hb dL_law_1217 (by decide) ?_
  refine va_forget (fun q hq => hS.2.2 q hq) ?_
  refine W.widen (k := 600000) (n := 7302250) (Nat.le_of_ble_eq_true rfl) (Nat.le_of_ble_eq_true rfl) ?_
  exact lw_ret hx hb hr hlocks dL_law_1218
set_option maxHeartbeats 4000000 in
set_option maxRecDepth 100000 in
theorem law_29 {p : Program} {e : Env} {s : State} {m : MethodId} {below : List Frame} {meth : Method} {c : Code} (l : Launch) {b : Nat} {xs : Nat → Int32} {G : va_G} {cy : Nat → ClassId} {x mo : Nat} {h k9 : Nat → Nat} {f : Nat → Nat → Int32} (hbm : ∀ k, k < 3 → f 2 k = -1) (hx : p.tables.exec = Jvm.exec) (hb : c.code = code) (hr : meth.sig.returnType = ret) (hml : c.maxLocals = 4) (hown : s.vm.findClass RL = some m.cls) (ht : ∀ w ∈ TBg, w.before #[Value.ref b] s = true) (hX : va_X b 6 xs s s.heap) (hbl : b < s.heap.size) (hlocks : meth.locks = false) (hK : va_K G vwCl (TY cy) s) (hN : NK s) {tsw : Nat} (hSW : SWt tsw (fun q : Nat => s.heap.size ≤ q) s) {H : Heap} {locs : List Loc} (hP : va_P G vwCl (WX cy x h ++ WM cy mo k9 f) H) (hD : va_D (fun q : Nat => s.heap.size ≤ q) (WX cy x h ++ WM cy mo k9 f)) (hS : va_S (fun q : Nat => s.heap.size ≤ q) s.heap H locs) {ls : Array Slot} (hl : lv_has ls 4 [(3, .int 0), (2, .ref mo), (1, .ref x), (0, .ref b)]) : W p l e room_1 s m #[Value.ref b] below meth c H locs 1000 40000 (lw_Z below #[Value.ref b] s) (F0 m 1165 ls []) := by
  have hA : ∀ q : Nat, s.heap.size ≤ q → (fun q : Nat => s.heap.size ≤ q) q := fun _ h => h
  have hbA : ¬ (fun q : Nat => s.heap.size ≤ q) b := Nat.not_le.mpr hbl
  refine lv_aload_n hx hb dL_law_1165 rfl (lv_at hl 2 rfl) ?_
  refine lv_aload_n hx hb dL_law_1166 rfl (lv_at hl 3 rfl) ?_
  refine lv_iload_n hx hb dL_law_1167 rfl (lv_at hl 0 rfl) ?_
  refine lv_iconst (v := 1) hx hb dL_law_1168 (by decide) ?_
  refine lv_iadd hx hb dL_law_1169 ?_
  refine ow_top 1 (by decide +kernel) ?_
  refine va_sld hx hb hX hbl hbA hS (in_lit (by decide +kernel)) dL_law_1170 ?_
  refine ow_top (xs 1) rfl ?_
  have hPD := fr_left hP hD
  have hFc := fr_leftF hD hS hA
  refine va_calli (va_runV (As := [.int (xs 1)]) (rest := []) ⟨hx, hb, hml, hown, ht⟩ (x_back l G cy _ x h (xs 1)) (cwV 1 ht (gv k_602 k_603 k_604 k_183 k_601) rfl rfl rfl (by decide +kernel) ⟨Nat.le_of_ble_eq_true rfl, Nat.le_of_ble_eq_true rfl⟩) ⟨En.blind, va_recv hK hPD.1 (ci := 11) (q0 := 0) rfl rfl, fun U hU hW => ⟨rfl, En.of hU hW hPD.1 hK hPD.2 hN⟩⟩ rfl rfl hl.1 rfl (lv_room (Nat.le_of_ble_eq_true rfl)) dL_law_1171 ⟨Nat.le_of_ble_eq_true rfl, Nat.le_of_ble_eq_true rfl⟩) hS (fun q _ h => hFc q h) hFc (fun r_1 u t H locs ht9 hvm hwr_1 hB hz1 hk1 hS => ?_)
  obtain ⟨hP, hD⟩ := fr_drop hP hD hk1
  refine lv_aload_n hx hb dL_law_1174 rfl (lv_at hl 1 rfl) ?_
  refine lv_aload_n hx hb dL_law_1175 rfl (lv_at hl 3 rfl) ?_
  refine lv_iload_n hx hb dL_law_1176 rfl (lv_at hl 0 rfl) ?_
  refine lv_iconst (v := 1) hx hb dL_law_1177 (by decide) ?_
  refine lv_iadd hx hb dL_law_1178 ?_
  refine ow_top 1 (by decide +kernel) ?_
  refine va_sld hx hb hX hbl hbA hS (in_lit (by decide +kernel)) dL_law_1179 ?_
  refine ow_top (xs 1) rfl ?_
  have hFc := fr_free hD hS hA
  refine va_calli (va_runV (As := [.int (xs 1)]) (rest := [.int r_1]) ⟨hx, hb, hml, hown, ht⟩ (m_back l G cy _ mo k9 f (xs 1) hbm) (cwV 1 ht (gv k_606 k_607 k_608 k_314 k_605) rfl rfl rfl (by decide +kernel) ⟨Nat.le_of_ble_eq_true rfl, Nat.le_of_ble_eq_true rfl⟩) ⟨En.blind, va_recv hK hP (ci := 12) (q0 := 0) rfl rfl, fun U hU hW => ⟨rfl, En.of hU hW hP hK hD hN⟩⟩ rfl rfl hl.1 rfl (lv_room (Nat.le_of_ble_eq_true rfl)) dL_law_1180 ⟨Nat.le_of_ble_eq_true rfl, Nat.le_of_ble_eq_true rfl⟩) hS (fun q _ h => hFc q h) hFc (fun r_2 u t H locs ht9 hvm hwr_2 hB hz1 hk1 hS => ?_)
  refine lv_icmp_eq (tgt := 1211) hx hb dL_law_1183 (by decide) (fun _ => ?_) (fun c9 => absurd (hwr_1.1.trans hwr_2.1.symm) c9)
  refine lv_iinc (v := 6) (lv' := [(3, .int 6), (2, .ref mo), (1, .ref x), (0, .ref b)]) hx hb dL_law_1211 hl (k := 0) rfl (by decide) (by decide) rfl (fun ls hl => ?_)
  refine lv_goto (tgt := 18) hx hb dL_law_1214 (by decide) ?_
  refine lv_iload_n hx hb dL_law_18 rfl (lv_at hl 0 rfl) ?_
  refine lv_aload_n hx hb dL_law_19 rfl (lv_at hl 3 rfl) ?_
  refine va_slen hx hb hX hbl hbA hS dL_law_20 ?_
  refine ow_top 6 (by decide +kernel) ?_
  refine lv_bipush (v := 6) hx hb dL_law_21 (by decide) ?_
  refine lv_isub hx hb dL_law_23 ?_
  refine ow_top 0 (by decide +kernel) ?_
  refine lv_icmp_gt (tgt := 1217) hx hb dL_law_24 (by decide) (fun _ => ?_) (fun c9 => absurd (by decide) c9)
  refine lv_iconst (v := 1) hx hb dL_law_1217 (by decide) ?_
  refine va_forget (fun q hq => hS.2.2 q hq) ?_
  refine W.widen (k := 600000) (n := 7302250) (Nat.le_of_ble_eq_true rfl) (Nat.le_of_ble_eq_true rfl) ?_
  exact lw_ret hx hb hr hlocks dL_law_1218
set_option maxHeartbeats 4000000 in
set_option maxRecDepth 100000 in
theorem law_30 {p : Program} {e : Env} {s : State} {m : MethodId} {below : List Frame} {meth : Method} {c : Code} (l : Launch) {b : Nat} {xs : Nat → Int32} {G : va_G} {cy : Nat → ClassId} {x mo : Nat} {h k9 : Nat → Nat} {f : Nat → Nat → Int32} (hbm : ∀ k, k < 3 → f 2 k = -1) (hx : p.tables.exec = Jvm.exec) (hb : c.code = code) (hr : meth.sig.returnType = ret) (hml : c.maxLocals = 4) (hown : s.vm.findClass RL = some m.cls) (ht : ∀ w ∈ TBg, w.before #[Value.ref b] s = true) (hX : va_X b 6 xs s s.heap) (hbl : b < s.heap.size) (hlocks : meth.locks = false) (hK : va_K G vwCl (TY cy) s) (hN : NK s) {tsw : Nat} (hSW : SWt tsw (fun q : Nat => s.heap.size ≤ q) s) {H : Heap} {locs : List Loc} (hP : va_P G vwCl (WX cy x h ++ WM cy mo k9 f) H) (hD : va_D (fun q : Nat => s.heap.size ≤ q) (WX cy x h ++ WM cy mo k9 f)) (hS : va_S (fun q : Nat => s.heap.size ≤ q) s.heap H locs) {ls : Array Slot} (hl : lv_has ls 4 [(3, .int 0), (2, .ref mo), (1, .ref x), (0, .ref b)]) : W p l e room_1 s m #[Value.ref b] below meth c H locs 1000 40000 (lw_Z below #[Value.ref b] s) (F0 m 1188 ls []) := by
  have hA : ∀ q : Nat, s.heap.size ≤ q → (fun q : Nat => s.heap.size ≤ q) q := fun _ h => h
  have hbA : ¬ (fun q : Nat => s.heap.size ≤ q) b := Nat.not_le.mpr hbl
  refine lv_aload_n hx hb dL_law_1188 rfl (lv_at hl 2 rfl) ?_
  refine lv_aload_n hx hb dL_law_1189 rfl (lv_at hl 3 rfl) ?_
  refine lv_iload_n hx hb dL_law_1190 rfl (lv_at hl 0 rfl) ?_
  refine lv_iconst (v := 1) hx hb dL_law_1191 (by decide) ?_
  refine lv_iadd hx hb dL_law_1192 ?_
  refine ow_top 1 (by decide +kernel) ?_
  refine va_sld hx hb hX hbl hbA hS (in_lit (by decide +kernel)) dL_law_1193 ?_
  refine ow_top (xs 1) rfl ?_
  have hPD := fr_left hP hD
  have hFc := fr_leftF hD hS hA
  refine va_calli (va_runV (As := [.int (xs 1)]) (rest := []) ⟨hx, hb, hml, hown, ht⟩ (x_about l G cy _ x h (xs 1)) (cwV 1 ht (gv k_610 k_611 k_612 k_183 k_609) rfl rfl rfl (by decide +kernel) ⟨Nat.le_of_ble_eq_true rfl, Nat.le_of_ble_eq_true rfl⟩) ⟨En.blind, va_recv hK hPD.1 (ci := 11) (q0 := 0) rfl rfl, fun U hU hW => ⟨rfl, En.of hU hW hPD.1 hK hPD.2 hN⟩⟩ rfl rfl hl.1 rfl (lv_room (Nat.le_of_ble_eq_true rfl)) dL_law_1194 ⟨Nat.le_of_ble_eq_true rfl, Nat.le_of_ble_eq_true rfl⟩) hS (fun q _ h => hFc q h) hFc (fun r_1 u t H locs ht9 hvm hwr_1 hB hz1 hk1 hS => ?_)
  obtain ⟨hP, hD⟩ := fr_drop hP hD hk1
  refine lv_aload_n hx hb dL_law_1197 rfl (lv_at hl 1 rfl) ?_
  refine lv_aload_n hx hb dL_law_1198 rfl (lv_at hl 3 rfl) ?_
  refine lv_iload_n hx hb dL_law_1199 rfl (lv_at hl 0 rfl) ?_
  refine lv_iconst (v := 1) hx hb dL_law_1200 (by decide) ?_
  refine lv_iadd hx hb dL_law_1201 ?_
  refine ow_top 1 (by decide +kernel) ?_
  refine va_sld hx hb hX hbl hbA hS (in_lit (by decide +kernel)) dL_law_1202 ?_
  refine ow_top (xs 1) rfl ?_
  have hFc := fr_free hD hS hA
  refine va_calli (va_runV (As := [.int (xs 1)]) (rest := [.int r_1]) ⟨hx, hb, hml, hown, ht⟩ (m_about l G cy _ mo k9 f (xs 1)) (cwV 1 ht (gv k_614 k_615 k_616 k_314 k_613) rfl rfl rfl (by decide +kernel) ⟨Nat.le_of_ble_eq_true rfl, Nat.le_of_ble_eq_true rfl⟩) ⟨En.blind, va_recv hK hP (ci := 12) (q0 := 0) rfl rfl, fun U hU hW => ⟨rfl, En.of hU hW hP hK hD hN⟩⟩ rfl rfl hl.1 rfl (lv_room (Nat.le_of_ble_eq_true rfl)) dL_law_1203 ⟨Nat.le_of_ble_eq_true rfl, Nat.le_of_ble_eq_true rfl⟩) hS (fun q _ h => hFc q h) hFc (fun r_2 u t H locs ht9 hvm hwr_2 hB hz1 hk1 hS => ?_)
  refine lv_icmp_eq (tgt := 1211) hx hb dL_law_1206 (by decide) (fun _ => ?_) (fun c9 => absurd (hwr_1.1.trans hwr_2.1.symm) c9)
  refine lv_iinc (v := 6) (lv' := [(3, .int 6), (2, .ref mo), (1, .ref x), (0, .ref b)]) hx hb dL_law_1211 hl (k := 0) rfl (by decide) (by decide) rfl (fun ls hl => ?_)
  refine lv_goto (tgt := 18) hx hb dL_law_1214 (by decide) ?_
  refine lv_iload_n hx hb dL_law_18 rfl (lv_at hl 0 rfl) ?_
  refine lv_aload_n hx hb dL_law_19 rfl (lv_at hl 3 rfl) ?_
  refine va_slen hx hb hX hbl hbA hS dL_law_20 ?_
  refine ow_top 6 (by decide +kernel) ?_
  refine lv_bipush (v := 6) hx hb dL_law_21 (by decide) ?_
  refine lv_isub hx hb dL_law_23 ?_
  refine ow_top 0 (by decide +kernel) ?_
  refine lv_icmp_gt (tgt := 1217) hx hb dL_law_24 (by decide) (fun _ => ?_) (fun c9 => absurd (by decide) c9)
  refine lv_iconst (v := 1) hx hb dL_law_1217 (by decide) ?_
  refine va_forget (fun q hq => hS.2.2 q hq) ?_
  refine W.widen (k := 600000) (n := 7302250) (Nat.le_of_ble_eq_true rfl) (Nat.le_of_ble_eq_true rfl) ?_
  exact lw_ret hx hb hr hlocks dL_law_1218
set_option maxHeartbeats 4000000 in
set_option maxRecDepth 100000 in
theorem law_d {p : Program} {e : Env} {s : State} {m : MethodId} {below : List Frame} {meth : Method} {c : Code} (l : Launch) {b : Nat} {xs : Nat → Int32} {G : va_G} {cy : Nat → ClassId} {x mo : Nat} {h k9 : Nat → Nat} {f : Nat → Nat → Int32} (hbm : ∀ k, k < 3 → f 2 k = -1) (hx : p.tables.exec = Jvm.exec) (hb : c.code = code) (hr : meth.sig.returnType = ret) (hml : c.maxLocals = 4) (hown : s.vm.findClass RL = some m.cls) (ht : ∀ w ∈ TBg, w.before #[Value.ref b] s = true) (hX : va_X b 6 xs s s.heap) (hbl : b < s.heap.size) (hlocks : meth.locks = false) (hK : va_K G vwCl (TY cy) s) (hN : NK s) {tsw : Nat} (hSW : SWt tsw (fun q : Nat => s.heap.size ≤ q) s) {H : Heap} {locs : List Loc} (hP : va_P G vwCl (WX cy x h ++ WM cy mo k9 f) H) (hD : va_D (fun q : Nat => s.heap.size ≤ q) (WX cy x h ++ WM cy mo k9 f)) (hS : va_S (fun q : Nat => s.heap.size ≤ q) s.heap H locs) {ls : Array Slot} (hl : lv_has ls 4 [(3, .int 0), (2, .ref mo), (1, .ref x), (0, .ref b)]) : W p l e room_1 s m #[Value.ref b] below meth c H locs 1000 40000 (lw_Z below #[Value.ref b] s) (F0 m 1211 ls []) := by
  have hA : ∀ q : Nat, s.heap.size ≤ q → (fun q : Nat => s.heap.size ≤ q) q := fun _ h => h
  have hbA : ¬ (fun q : Nat => s.heap.size ≤ q) b := Nat.not_le.mpr hbl
  refine lv_iinc (v := 6) (lv' := [(3, .int 6), (2, .ref mo), (1, .ref x), (0, .ref b)]) hx hb dL_law_1211 hl (k := 0) rfl (by decide) (by decide) rfl (fun ls hl => ?_)
  refine lv_goto (tgt := 18) hx hb dL_law_1214 (by decide) ?_
  refine lv_iload_n hx hb dL_law_18 rfl (lv_at hl 0 rfl) ?_
  refine lv_aload_n hx hb dL_law_19 rfl (lv_at hl 3 rfl) ?_
  refine va_slen hx hb hX hbl hbA hS dL_law_20 ?_
  refine ow_top 6 (by decide +kernel) ?_
  refine lv_bipush (v := 6) hx hb dL_law_21 (by decide) ?_
  refine lv_isub hx hb dL_law_23 ?_
  refine ow_top 0 (by decide +kernel) ?_
  refine lv_icmp_gt (tgt := 1217) hx hb dL_law_24 (by decide) (fun _ => ?_) (fun c9 => absurd (by decide) c9)
  refine lv_iconst (v := 1) hx hb dL_law_1217 (by decide) ?_
  refine va_forget (fun q hq => hS.2.2 q hq) ?_
  refine W.widen (k := 600000) (n := 7302250) (Nat.le_of_ble_eq_true rfl) (Nat.le_of_ble_eq_true rfl) ?_
  exact lw_ret hx hb hr hlocks dL_law_1218
