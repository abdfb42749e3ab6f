theorem dk_d03_317 : dkc cX12_init [(376, .bipush 103, 2), (378, .iastore, 1), (379, .dup, 1), (380, .bipush 51, 2), (382, .bipush 104, 2), (384, .iastore, 1), (385, .dup, 1), (386, .bipush 52, 2), (388, .bipush 116, 2), (390, .iastore, 1), (391, .dup, 1), (392, .bipush 53, 2), (394, .bipush 32, 2), (396, .iastore, 1), (397, .dup, 1), (398, .bipush 54, 2), (400, .bipush 100, 2), (402, .iastore, 1), (403, .dup, 1), (404, .bipush 55, 2), (406, .bipush 101, 2), (408, .iastore, 1), (409, .dup, 1), (410, .bipush 56, 2), (412, .bipush 112, 2)] = true := by decide +kernel
theorem dX12_init_376 : decode cX12_init 376 = .ok (.bipush 103, 2) := dk_get dk_d03_317 0 rfl
theorem dX12_init_378 : decode cX12_init 378 = .ok (.iastore, 1) := dk_get dk_d03_317 1 rfl
theorem dX12_init_379 : decode cX12_init 379 = .ok (.dup, 1) := dk_get dk_d03_317 2 rfl
theorem dX12_init_380 : decode cX12_init 380 = .ok (.bipush 51, 2) := dk_get dk_d03_317 3 rfl
theorem dX12_init_382 : decode cX12_init 382 = .ok (.bipush 104, 2) := dk_get dk_d03_317 4 rfl
theorem dX12_init_384 : decode cX12_init 384 = .ok (.iastore, 1) := dk_get dk_d03_317 5 rfl
theorem dX12_init_385 : decode cX12_init 385 = .ok (.dup, 1) := dk_get dk_d03_317 6 rfl
theorem dX12_init_386 : decode cX12_init 386 = .ok (.bipush 52, 2) := dk_get dk_d03_317 7 rfl
theorem dX12_init_388 : decode cX12_init 388 = .ok (.bipush 116, 2) := dk_get dk_d03_317 8 rfl
theorem dX12_init_390 : decode cX12_init 390 = .ok (.iastore, 1) := dk_get dk_d03_317 9 rfl
theorem dX12_init_391 : decode cX12_init 391 = .ok (.dup, 1) := dk_get dk_d03_317 10 rfl
theorem dX12_init_392 : decode cX12_init 392 = .ok (.bipush 53, 2) := dk_get dk_d03_317 11 rfl
theorem dX12_init_394 : decode cX12_init 394 = .ok (.bipush 32, 2) := dk_get dk_d03_317 12 rfl
theorem dX12_init_396 : decode cX12_init 396 = .ok (.iastore, 1) := dk_get dk_d03_317 13 rfl
theorem dX12_init_397 : decode cX12_init 397 = .ok (.dup, 1) := dk_get dk_d03_317 14 rfl
theorem dX12_init_398 : decode cX12_init 398 = .ok (.bipush 54, 2) := dk_get dk_d03_317 15 rfl
theorem dX12_init_400 : decode cX12_init 400 = .ok (.bipush 100, 2) := dk_get dk_d03_317 16 rfl
theorem dX12_init_402 : decode cX12_init 402 = .ok (.iastore, 1) := dk_get dk_d03_317 17 rfl
theorem dX12_init_403 : decode cX12_init 403 = .ok (.dup, 1) := dk_get dk_d03_317 18 rfl
theorem dX12_init_404 : decode cX12_init 404 = .ok (.bipush 55, 2) := dk_get dk_d03_317 19 rfl
theorem dX12_init_406 : decode cX12_init 406 = .ok (.bipush 101, 2) := dk_get dk_d03_317 20 rfl
theorem dX12_init_408 : decode cX12_init 408 = .ok (.iastore, 1) := dk_get dk_d03_317 21 rfl
theorem dX12_init_409 : decode cX12_init 409 = .ok (.dup, 1) := dk_get dk_d03_317 22 rfl
theorem dX12_init_410 : decode cX12_init 410 = .ok (.bipush 56, 2) := dk_get dk_d03_317 23 rfl
theorem dX12_init_412 : decode cX12_init 412 = .ok (.bipush 112, 2) := dk_get dk_d03_317 24 rfl
theorem dk_d03_318 : dkc cX12_init [(414, .iastore, 1), (415, .dup, 1), (416, .bipush 57, 2), (418, .bipush 116, 2), (420, .iastore, 1), (421, .dup, 1), (422, .bipush 58, 2), (424, .bipush 104, 2), (426, .iastore, 1), (427, .dup, 1), (428, .bipush 59, 2), (430, .bipush 32, 2), (432, .iastore, 1), (433, .dup, 1), (434, .bipush 60, 2), (436, .bipush 104, 2), (438, .iastore, 1), (439, .dup, 1), (440, .bipush 61, 2), (442, .bipush 101, 2), (444, .iastore, 1), (445, .dup, 1), (446, .bipush 62, 2), (448, .bipush 97, 2), (450, .iastore, 1)] = true := by decide +kernel
theorem dX12_init_414 : decode cX12_init 414 = .ok (.iastore, 1) := dk_get dk_d03_318 0 rfl
theorem dX12_init_415 : decode cX12_init 415 = .ok (.dup, 1) := dk_get dk_d03_318 1 rfl
theorem dX12_init_416 : decode cX12_init 416 = .ok (.bipush 57, 2) := dk_get dk_d03_318 2 rfl
theorem dX12_init_418 : decode cX12_init 418 = .ok (.bipush 116, 2) := dk_get dk_d03_318 3 rfl
theorem dX12_init_420 : decode cX12_init 420 = .ok (.iastore, 1) := dk_get dk_d03_318 4 rfl
theorem dX12_init_421 : decode cX12_init 421 = .ok (.dup, 1) := dk_get dk_d03_318 5 rfl
theorem dX12_init_422 : decode cX12_init 422 = .ok (.bipush 58, 2) := dk_get dk_d03_318 6 rfl
theorem dX12_init_424 : decode cX12_init 424 = .ok (.bipush 104, 2) := dk_get dk_d03_318 7 rfl
theorem dX12_init_426 : decode cX12_init 426 = .ok (.iastore, 1) := dk_get dk_d03_318 8 rfl
theorem dX12_init_427 : decode cX12_init 427 = .ok (.dup, 1) := dk_get dk_d03_318 9 rfl
theorem dX12_init_428 : decode cX12_init 428 = .ok (.bipush 59, 2) := dk_get dk_d03_318 10 rfl
theorem dX12_init_430 : decode cX12_init 430 = .ok (.bipush 32, 2) := dk_get dk_d03_318 11 rfl
theorem dX12_init_432 : decode cX12_init 432 = .ok (.iastore, 1) := dk_get dk_d03_318 12 rfl
theorem dX12_init_433 : decode cX12_init 433 = .ok (.dup, 1) := dk_get dk_d03_318 13 rfl
theorem dX12_init_434 : decode cX12_init 434 = .ok (.bipush 60, 2) := dk_get dk_d03_318 14 rfl
theorem dX12_init_436 : decode cX12_init 436 = .ok (.bipush 104, 2) := dk_get dk_d03_318 15 rfl
theorem dX12_init_438 : decode cX12_init 438 = .ok (.iastore, 1) := dk_get dk_d03_318 16 rfl
theorem dX12_init_439 : decode cX12_init 439 = .ok (.dup, 1) := dk_get dk_d03_318 17 rfl
theorem dX12_init_440 : decode cX12_init 440 = .ok (.bipush 61, 2) := dk_get dk_d03_318 18 rfl
theorem dX12_init_442 : decode cX12_init 442 = .ok (.bipush 101, 2) := dk_get dk_d03_318 19 rfl
theorem dX12_init_444 : decode cX12_init 444 = .ok (.iastore, 1) := dk_get dk_d03_318 20 rfl
theorem dX12_init_445 : decode cX12_init 445 = .ok (.dup, 1) := dk_get dk_d03_318 21 rfl
theorem dX12_init_446 : decode cX12_init 446 = .ok (.bipush 62, 2) := dk_get dk_d03_318 22 rfl
theorem dX12_init_448 : decode cX12_init 448 = .ok (.bipush 97, 2) := dk_get dk_d03_318 23 rfl
theorem dX12_init_450 : decode cX12_init 450 = .ok (.iastore, 1) := dk_get dk_d03_318 24 rfl
theorem dk_d03_319 : dkc cX12_init [(451, .dup, 1), (452, .bipush 63, 2), (454, .bipush 116, 2), (456, .iastore, 1), (457, .dup, 1), (458, .bipush 64, 2), (460, .bipush 32, 2), (462, .iastore, 1), (463, .dup, 1), (464, .bipush 65, 2), (466, .bipush 104, 2), (468, .iastore, 1), (469, .dup, 1), (470, .bipush 66, 2), (472, .bipush 111, 2), (474, .iastore, 1), (475, .dup, 1), (476, .bipush 67, 2), (478, .bipush 117, 2), (480, .iastore, 1), (481, .dup, 1), (482, .bipush 68, 2), (484, .bipush 114, 2), (486, .iastore, 1), (487, .dup, 1)] = true := by decide +kernel
theorem dX12_init_451 : decode cX12_init 451 = .ok (.dup, 1) := dk_get dk_d03_319 0 rfl
theorem dX12_init_452 : decode cX12_init 452 = .ok (.bipush 63, 2) := dk_get dk_d03_319 1 rfl
theorem dX12_init_454 : decode cX12_init 454 = .ok (.bipush 116, 2) := dk_get dk_d03_319 2 rfl
theorem dX12_init_456 : decode cX12_init 456 = .ok (.iastore, 1) := dk_get dk_d03_319 3 rfl
theorem dX12_init_457 : decode cX12_init 457 = .ok (.dup, 1) := dk_get dk_d03_319 4 rfl
theorem dX12_init_458 : decode cX12_init 458 = .ok (.bipush 64, 2) := dk_get dk_d03_319 5 rfl
theorem dX12_init_460 : decode cX12_init 460 = .ok (.bipush 32, 2) := dk_get dk_d03_319 6 rfl
theorem dX12_init_462 : decode cX12_init 462 = .ok (.iastore, 1) := dk_get dk_d03_319 7 rfl
theorem dX12_init_463 : decode cX12_init 463 = .ok (.dup, 1) := dk_get dk_d03_319 8 rfl
theorem dX12_init_464 : decode cX12_init 464 = .ok (.bipush 65, 2) := dk_get dk_d03_319 9 rfl
theorem dX12_init_466 : decode cX12_init 466 = .ok (.bipush 104, 2) := dk_get dk_d03_319 10 rfl
theorem dX12_init_468 : decode cX12_init 468 = .ok (.iastore, 1) := dk_get dk_d03_319 11 rfl
theorem dX12_init_469 : decode cX12_init 469 = .ok (.dup, 1) := dk_get dk_d03_319 12 rfl
theorem dX12_init_470 : decode cX12_init 470 = .ok (.bipush 66, 2) := dk_get dk_d03_319 13 rfl
theorem dX12_init_472 : decode cX12_init 472 = .ok (.bipush 111, 2) := dk_get dk_d03_319 14 rfl
theorem dX12_init_474 : decode cX12_init 474 = .ok (.iastore, 1) := dk_get dk_d03_319 15 rfl
theorem dX12_init_475 : decode cX12_init 475 = .ok (.dup, 1) := dk_get dk_d03_319 16 rfl
theorem dX12_init_476 : decode cX12_init 476 = .ok (.bipush 67, 2) := dk_get dk_d03_319 17 rfl
theorem dX12_init_478 : decode cX12_init 478 = .ok (.bipush 117, 2) := dk_get dk_d03_319 18 rfl
theorem dX12_init_480 : decode cX12_init 480 = .ok (.iastore, 1) := dk_get dk_d03_319 19 rfl
theorem dX12_init_481 : decode cX12_init 481 = .ok (.dup, 1) := dk_get dk_d03_319 20 rfl
theorem dX12_init_482 : decode cX12_init 482 = .ok (.bipush 68, 2) := dk_get dk_d03_319 21 rfl
theorem dX12_init_484 : decode cX12_init 484 = .ok (.bipush 114, 2) := dk_get dk_d03_319 22 rfl
theorem dX12_init_486 : decode cX12_init 486 = .ok (.iastore, 1) := dk_get dk_d03_319 23 rfl
theorem dX12_init_487 : decode cX12_init 487 = .ok (.dup, 1) := dk_get dk_d03_319 24 rfl
theorem dk_d03_320 : dkc cX12_init [(488, .bipush 69, 2), (490, .bipush 32, 2), (492, .iastore, 1), (493, .dup, 1), (494, .bipush 70, 2), (496, .bipush 114, 2), (498, .iastore, 1), (499, .dup, 1), (500, .bipush 71, 2), (502, .bipush 111, 2), (504, .iastore, 1), (505, .dup, 1), (506, .bipush 72, 2), (508, .bipush 119, 2), (510, .iastore, 1), (511, .dup, 1), (512, .bipush 73, 2), (514, .bipush 32, 2), (516, .iastore, 1), (517, .dup, 1), (518, .bipush 74, 2), (520, .bipush 98, 2), (522, .iastore, 1), (523, .dup, 1), (524, .bipush 75, 2)] = true := by decide +kernel
theorem dX12_init_488 : decode cX12_init 488 = .ok (.bipush 69, 2) := dk_get dk_d03_320 0 rfl
theorem dX12_init_490 : decode cX12_init 490 = .ok (.bipush 32, 2) := dk_get dk_d03_320 1 rfl
theorem dX12_init_492 : decode cX12_init 492 = .ok (.iastore, 1) := dk_get dk_d03_320 2 rfl
theorem dX12_init_493 : decode cX12_init 493 = .ok (.dup, 1) := dk_get dk_d03_320 3 rfl
theorem dX12_init_494 : decode cX12_init 494 = .ok (.bipush 70, 2) := dk_get dk_d03_320 4 rfl
theorem dX12_init_496 : decode cX12_init 496 = .ok (.bipush 114, 2) := dk_get dk_d03_320 5 rfl
theorem dX12_init_498 : decode cX12_init 498 = .ok (.iastore, 1) := dk_get dk_d03_320 6 rfl
theorem dX12_init_499 : decode cX12_init 499 = .ok (.dup, 1) := dk_get dk_d03_320 7 rfl
theorem dX12_init_500 : decode cX12_init 500 = .ok (.bipush 71, 2) := dk_get dk_d03_320 8 rfl
theorem dX12_init_502 : decode cX12_init 502 = .ok (.bipush 111, 2) := dk_get dk_d03_320 9 rfl
theorem dX12_init_504 : decode cX12_init 504 = .ok (.iastore, 1) := dk_get dk_d03_320 10 rfl
theorem dX12_init_505 : decode cX12_init 505 = .ok (.dup, 1) := dk_get dk_d03_320 11 rfl
theorem dX12_init_506 : decode cX12_init 506 = .ok (.bipush 72, 2) := dk_get dk_d03_320 12 rfl
theorem dX12_init_508 : decode cX12_init 508 = .ok (.bipush 119, 2) := dk_get dk_d03_320 13 rfl
theorem dX12_init_510 : decode cX12_init 510 = .ok (.iastore, 1) := dk_get dk_d03_320 14 rfl
theorem dX12_init_511 : decode cX12_init 511 = .ok (.dup, 1) := dk_get dk_d03_320 15 rfl
theorem dX12_init_512 : decode cX12_init 512 = .ok (.bipush 73, 2) := dk_get dk_d03_320 16 rfl
theorem dX12_init_514 : decode cX12_init 514 = .ok (.bipush 32, 2) := dk_get dk_d03_320 17 rfl
theorem dX12_init_516 : decode cX12_init 516 = .ok (.iastore, 1) := dk_get dk_d03_320 18 rfl
theorem dX12_init_517 : decode cX12_init 517 = .ok (.dup, 1) := dk_get dk_d03_320 19 rfl
theorem dX12_init_518 : decode cX12_init 518 = .ok (.bipush 74, 2) := dk_get dk_d03_320 20 rfl
theorem dX12_init_520 : decode cX12_init 520 = .ok (.bipush 98, 2) := dk_get dk_d03_320 21 rfl
theorem dX12_init_522 : decode cX12_init 522 = .ok (.iastore, 1) := dk_get dk_d03_320 22 rfl
theorem dX12_init_523 : decode cX12_init 523 = .ok (.dup, 1) := dk_get dk_d03_320 23 rfl
theorem dX12_init_524 : decode cX12_init 524 = .ok (.bipush 75, 2) := dk_get dk_d03_320 24 rfl
theorem dk_d03_321 : dkc cX12_init [(526, .bipush 101, 2), (528, .iastore, 1), (529, .dup, 1), (530, .bipush 76, 2), (532, .bipush 115, 2), (534, .iastore, 1), (535, .dup, 1), (536, .bipush 77, 2), (538, .bipush 105, 2), (540, .iastore, 1), (541, .dup, 1), (542, .bipush 78, 2), (544, .bipush 100, 2), (546, .iastore, 1), (547, .dup, 1), (548, .bipush 79, 2), (550, .bipush 101, 2), (552, .iastore, 1), (553, .dup, 1), (554, .bipush 80, 2), (556, .bipush 32, 2), (558, .iastore, 1), (559, .dup, 1), (560, .bipush 81, 2), (562, .bipush 99, 2)] = true := by decide +kernel
theorem dX12_init_526 : decode cX12_init 526 = .ok (.bipush 101, 2) := dk_get dk_d03_321 0 rfl
theorem dX12_init_528 : decode cX12_init 528 = .ok (.iastore, 1) := dk_get dk_d03_321 1 rfl
theorem dX12_init_529 : decode cX12_init 529 = .ok (.dup, 1) := dk_get dk_d03_321 2 rfl
theorem dX12_init_530 : decode cX12_init 530 = .ok (.bipush 76, 2) := dk_get dk_d03_321 3 rfl
theorem dX12_init_532 : decode cX12_init 532 = .ok (.bipush 115, 2) := dk_get dk_d03_321 4 rfl
theorem dX12_init_534 : decode cX12_init 534 = .ok (.iastore, 1) := dk_get dk_d03_321 5 rfl
theorem dX12_init_535 : decode cX12_init 535 = .ok (.dup, 1) := dk_get dk_d03_321 6 rfl
theorem dX12_init_536 : decode cX12_init 536 = .ok (.bipush 77, 2) := dk_get dk_d03_321 7 rfl
theorem dX12_init_538 : decode cX12_init 538 = .ok (.bipush 105, 2) := dk_get dk_d03_321 8 rfl
theorem dX12_init_540 : decode cX12_init 540 = .ok (.iastore, 1) := dk_get dk_d03_321 9 rfl
theorem dX12_init_541 : decode cX12_init 541 = .ok (.dup, 1) := dk_get dk_d03_321 10 rfl
theorem dX12_init_542 : decode cX12_init 542 = .ok (.bipush 78, 2) := dk_get dk_d03_321 11 rfl
theorem dX12_init_544 : decode cX12_init 544 = .ok (.bipush 100, 2) := dk_get dk_d03_321 12 rfl
theorem dX12_init_546 : decode cX12_init 546 = .ok (.iastore, 1) := dk_get dk_d03_321 13 rfl
theorem dX12_init_547 : decode cX12_init 547 = .ok (.dup, 1) := dk_get dk_d03_321 14 rfl
theorem dX12_init_548 : decode cX12_init 548 = .ok (.bipush 79, 2) := dk_get dk_d03_321 15 rfl
theorem dX12_init_550 : decode cX12_init 550 = .ok (.bipush 101, 2) := dk_get dk_d03_321 16 rfl
theorem dX12_init_552 : decode cX12_init 552 = .ok (.iastore, 1) := dk_get dk_d03_321 17 rfl
theorem dX12_init_553 : decode cX12_init 553 = .ok (.dup, 1) := dk_get dk_d03_321 18 rfl
theorem dX12_init_554 : decode cX12_init 554 = .ok (.bipush 80, 2) := dk_get dk_d03_321 19 rfl
theorem dX12_init_556 : decode cX12_init 556 = .ok (.bipush 32, 2) := dk_get dk_d03_321 20 rfl
theorem dX12_init_558 : decode cX12_init 558 = .ok (.iastore, 1) := dk_get dk_d03_321 21 rfl
theorem dX12_init_559 : decode cX12_init 559 = .ok (.dup, 1) := dk_get dk_d03_321 22 rfl
theorem dX12_init_560 : decode cX12_init 560 = .ok (.bipush 81, 2) := dk_get dk_d03_321 23 rfl
theorem dX12_init_562 : decode cX12_init 562 = .ok (.bipush 99, 2) := dk_get dk_d03_321 24 rfl
theorem dk_d03_322 : dkc cX12_init [(564, .iastore, 1), (565, .dup, 1), (566, .bipush 82, 2), (568, .bipush 97, 2), (570, .iastore, 1), (571, .dup, 1), (572, .bipush 83, 2), (574, .bipush 109, 2), (576, .iastore, 1), (577, .dup, 1), (578, .bipush 84, 2), (580, .bipush 101, 2), (582, .iastore, 1), (583, .dup, 1), (584, .bipush 85, 2), (586, .bipush 32, 2), (588, .iastore, 1), (589, .dup, 1), (590, .bipush 86, 2), (592, .bipush 100, 2), (594, .iastore, 1), (595, .dup, 1), (596, .bipush 87, 2), (598, .bipush 97, 2), (600, .iastore, 1)] = true := by decide +kernel
theorem dX12_init_564 : decode cX12_init 564 = .ok (.iastore, 1) := dk_get dk_d03_322 0 rfl
theorem dX12_init_565 : decode cX12_init 565 = .ok (.dup, 1) := dk_get dk_d03_322 1 rfl
theorem dX12_init_566 : decode cX12_init 566 = .ok (.bipush 82, 2) := dk_get dk_d03_322 2 rfl
theorem dX12_init_568 : decode cX12_init 568 = .ok (.bipush 97, 2) := dk_get dk_d03_322 3 rfl
theorem dX12_init_570 : decode cX12_init 570 = .ok (.iastore, 1) := dk_get dk_d03_322 4 rfl
theorem dX12_init_571 : decode cX12_init 571 = .ok (.dup, 1) := dk_get dk_d03_322 5 rfl
theorem dX12_init_572 : decode cX12_init 572 = .ok (.bipush 83, 2) := dk_get dk_d03_322 6 rfl
theorem dX12_init_574 : decode cX12_init 574 = .ok (.bipush 109, 2) := dk_get dk_d03_322 7 rfl
theorem dX12_init_576 : decode cX12_init 576 = .ok (.iastore, 1) := dk_get dk_d03_322 8 rfl
theorem dX12_init_577 : decode cX12_init 577 = .ok (.dup, 1) := dk_get dk_d03_322 9 rfl
theorem dX12_init_578 : decode cX12_init 578 = .ok (.bipush 84, 2) := dk_get dk_d03_322 10 rfl
theorem dX12_init_580 : decode cX12_init 580 = .ok (.bipush 101, 2) := dk_get dk_d03_322 11 rfl
theorem dX12_init_582 : decode cX12_init 582 = .ok (.iastore, 1) := dk_get dk_d03_322 12 rfl
theorem dX12_init_583 : decode cX12_init 583 = .ok (.dup, 1) := dk_get dk_d03_322 13 rfl
theorem dX12_init_584 : decode cX12_init 584 = .ok (.bipush 85, 2) := dk_get dk_d03_322 14 rfl
theorem dX12_init_586 : decode cX12_init 586 = .ok (.bipush 32, 2) := dk_get dk_d03_322 15 rfl
theorem dX12_init_588 : decode cX12_init 588 = .ok (.iastore, 1) := dk_get dk_d03_322 16 rfl
theorem dX12_init_589 : decode cX12_init 589 = .ok (.dup, 1) := dk_get dk_d03_322 17 rfl
theorem dX12_init_590 : decode cX12_init 590 = .ok (.bipush 86, 2) := dk_get dk_d03_322 18 rfl
theorem dX12_init_592 : decode cX12_init 592 = .ok (.bipush 100, 2) := dk_get dk_d03_322 19 rfl
theorem dX12_init_594 : decode cX12_init 594 = .ok (.iastore, 1) := dk_get dk_d03_322 20 rfl
theorem dX12_init_595 : decode cX12_init 595 = .ok (.dup, 1) := dk_get dk_d03_322 21 rfl
theorem dX12_init_596 : decode cX12_init 596 = .ok (.bipush 87, 2) := dk_get dk_d03_322 22 rfl
theorem dX12_init_598 : decode cX12_init 598 = .ok (.bipush 97, 2) := dk_get dk_d03_322 23 rfl
theorem dX12_init_600 : decode cX12_init 600 = .ok (.iastore, 1) := dk_get dk_d03_322 24 rfl
theorem dk_d03_323 : dkc cX12_init [(601, .dup, 1), (602, .bipush 88, 2), (604, .bipush 121, 2), (606, .iastore, 1), (607, .dup, 1), (608, .bipush 89, 2), (610, .bipush 32, 2), (612, .iastore, 1), (613, .dup, 1), (614, .bipush 90, 2), (616, .bipush 118, 2), (618, .iastore, 1), (619, .dup, 1), (620, .bipush 91, 2), (622, .bipush 111, 2), (624, .iastore, 1), (625, .dup, 1), (626, .bipush 92, 2), (628, .bipush 116, 2), (630, .iastore, 1), (631, .dup, 1), (632, .bipush 93, 2), (634, .bipush 101, 2), (636, .iastore, 1), (637, .dup, 1)] = true := by decide +kernel
theorem dX12_init_601 : decode cX12_init 601 = .ok (.dup, 1) := dk_get dk_d03_323 0 rfl
theorem dX12_init_602 : decode cX12_init 602 = .ok (.bipush 88, 2) := dk_get dk_d03_323 1 rfl
theorem dX12_init_604 : decode cX12_init 604 = .ok (.bipush 121, 2) := dk_get dk_d03_323 2 rfl
theorem dX12_init_606 : decode cX12_init 606 = .ok (.iastore, 1) := dk_get dk_d03_323 3 rfl
theorem dX12_init_607 : decode cX12_init 607 = .ok (.dup, 1) := dk_get dk_d03_323 4 rfl
theorem dX12_init_608 : decode cX12_init 608 = .ok (.bipush 89, 2) := dk_get dk_d03_323 5 rfl
theorem dX12_init_610 : decode cX12_init 610 = .ok (.bipush 32, 2) := dk_get dk_d03_323 6 rfl
theorem dX12_init_612 : decode cX12_init 612 = .ok (.iastore, 1) := dk_get dk_d03_323 7 rfl
theorem dX12_init_613 : decode cX12_init 613 = .ok (.dup, 1) := dk_get dk_d03_323 8 rfl
theorem dX12_init_614 : decode cX12_init 614 = .ok (.bipush 90, 2) := dk_get dk_d03_323 9 rfl
theorem dX12_init_616 : decode cX12_init 616 = .ok (.bipush 118, 2) := dk_get dk_d03_323 10 rfl
theorem dX12_init_618 : decode cX12_init 618 = .ok (.iastore, 1) := dk_get dk_d03_323 11 rfl
theorem dX12_init_619 : decode cX12_init 619 = .ok (.dup, 1) := dk_get dk_d03_323 12 rfl
theorem dX12_init_620 : decode cX12_init 620 = .ok (.bipush 91, 2) := dk_get dk_d03_323 13 rfl
theorem dX12_init_622 : decode cX12_init 622 = .ok (.bipush 111, 2) := dk_get dk_d03_323 14 rfl
theorem dX12_init_624 : decode cX12_init 624 = .ok (.iastore, 1) := dk_get dk_d03_323 15 rfl
theorem dX12_init_625 : decode cX12_init 625 = .ok (.dup, 1) := dk_get dk_d03_323 16 rfl
theorem dX12_init_626 : decode cX12_init 626 = .ok (.bipush 92, 2) := dk_get dk_d03_323 17 rfl
theorem dX12_init_628 : decode cX12_init 628 = .ok (.bipush 116, 2) := dk_get dk_d03_323 18 rfl
theorem dX12_init_630 : decode cX12_init 630 = .ok (.iastore, 1) := dk_get dk_d03_323 19 rfl
theorem dX12_init_631 : decode cX12_init 631 = .ok (.dup, 1) := dk_get dk_d03_323 20 rfl
theorem dX12_init_632 : decode cX12_init 632 = .ok (.bipush 93, 2) := dk_get dk_d03_323 21 rfl
theorem dX12_init_634 : decode cX12_init 634 = .ok (.bipush 101, 2) := dk_get dk_d03_323 22 rfl
theorem dX12_init_636 : decode cX12_init 636 = .ok (.iastore, 1) := dk_get dk_d03_323 23 rfl
theorem dX12_init_637 : decode cX12_init 637 = .ok (.dup, 1) := dk_get dk_d03_323 24 rfl
theorem dk_d03_324 : dkc cX12_init [(638, .bipush 94, 2), (640, .bipush 114, 2), (642, .iastore, 1), (643, .dup, 1), (644, .bipush 95, 2), (646, .bipush 32, 2), (648, .iastore, 1), (649, .dup, 1), (650, .bipush 96, 2), (652, .bipush 97, 2), (654, .iastore, 1), (655, .dup, 1), (656, .bipush 97, 2), (658, .bipush 116, 2), (660, .iastore, 1), (661, .dup, 1), (662, .bipush 98, 2), (664, .bipush 32, 2), (666, .iastore, 1), (667, .dup, 1), (668, .bipush 99, 2), (670, .bipush 116, 2), (672, .iastore, 1), (673, .dup, 1), (674, .bipush 100, 2)] = true := by decide +kernel
theorem dX12_init_638 : decode cX12_init 638 = .ok (.bipush 94, 2) := dk_get dk_d03_324 0 rfl
theorem dX12_init_640 : decode cX12_init 640 = .ok (.bipush 114, 2) := dk_get dk_d03_324 1 rfl
theorem dX12_init_642 : decode cX12_init 642 = .ok (.iastore, 1) := dk_get dk_d03_324 2 rfl
theorem dX12_init_643 : decode cX12_init 643 = .ok (.dup, 1) := dk_get dk_d03_324 3 rfl
theorem dX12_init_644 : decode cX12_init 644 = .ok (.bipush 95, 2) := dk_get dk_d03_324 4 rfl
theorem dX12_init_646 : decode cX12_init 646 = .ok (.bipush 32, 2) := dk_get dk_d03_324 5 rfl
theorem dX12_init_648 : decode cX12_init 648 = .ok (.iastore, 1) := dk_get dk_d03_324 6 rfl
theorem dX12_init_649 : decode cX12_init 649 = .ok (.dup, 1) := dk_get dk_d03_324 7 rfl
theorem dX12_init_650 : decode cX12_init 650 = .ok (.bipush 96, 2) := dk_get dk_d03_324 8 rfl
theorem dX12_init_652 : decode cX12_init 652 = .ok (.bipush 97, 2) := dk_get dk_d03_324 9 rfl
theorem dX12_init_654 : decode cX12_init 654 = .ok (.iastore, 1) := dk_get dk_d03_324 10 rfl
theorem dX12_init_655 : decode cX12_init 655 = .ok (.dup, 1) := dk_get dk_d03_324 11 rfl
theorem dX12_init_656 : decode cX12_init 656 = .ok (.bipush 97, 2) := dk_get dk_d03_324 12 rfl
theorem dX12_init_658 : decode cX12_init 658 = .ok (.bipush 116, 2) := dk_get dk_d03_324 13 rfl
theorem dX12_init_660 : decode cX12_init 660 = .ok (.iastore, 1) := dk_get dk_d03_324 14 rfl
theorem dX12_init_661 : decode cX12_init 661 = .ok (.dup, 1) := dk_get dk_d03_324 15 rfl
theorem dX12_init_662 : decode cX12_init 662 = .ok (.bipush 98, 2) := dk_get dk_d03_324 16 rfl
theorem dX12_init_664 : decode cX12_init 664 = .ok (.bipush 32, 2) := dk_get dk_d03_324 17 rfl
theorem dX12_init_666 : decode cX12_init 666 = .ok (.iastore, 1) := dk_get dk_d03_324 18 rfl
theorem dX12_init_667 : decode cX12_init 667 = .ok (.dup, 1) := dk_get dk_d03_324 19 rfl
theorem dX12_init_668 : decode cX12_init 668 = .ok (.bipush 99, 2) := dk_get dk_d03_324 20 rfl
theorem dX12_init_670 : decode cX12_init 670 = .ok (.bipush 116, 2) := dk_get dk_d03_324 21 rfl
theorem dX12_init_672 : decode cX12_init 672 = .ok (.iastore, 1) := dk_get dk_d03_324 22 rfl
theorem dX12_init_673 : decode cX12_init 673 = .ok (.dup, 1) := dk_get dk_d03_324 23 rfl
theorem dX12_init_674 : decode cX12_init 674 = .ok (.bipush 100, 2) := dk_get dk_d03_324 24 rfl
theorem dk_d03_325 : dkc cX12_init [(676, .bipush 111, 2), (678, .iastore, 1), (679, .dup, 1), (680, .bipush 101, 2), (682, .bipush 32, 2), (684, .iastore, 1), (685, .dup, 1), (686, .bipush 102, 2), (688, .bipush 111, 2), (690, .iastore, 1), (691, .dup, 1), (692, .bipush 103, 2), (694, .bipush 110, 2), (696, .iastore, 1), (697, .dup, 1), (698, .bipush 104, 2), (700, .bipush 32, 2), (702, .iastore, 1), (703, .dup, 1), (704, .bipush 105, 2), (706, .bipush 112, 2), (708, .iastore, 1), (709, .dup, 1), (710, .bipush 106, 2), (712, .bipush 117, 2)] = true := by decide +kernel
theorem dX12_init_676 : decode cX12_init 676 = .ok (.bipush 111, 2) := dk_get dk_d03_325 0 rfl
theorem dX12_init_678 : decode cX12_init 678 = .ok (.iastore, 1) := dk_get dk_d03_325 1 rfl
theorem dX12_init_679 : decode cX12_init 679 = .ok (.dup, 1) := dk_get dk_d03_325 2 rfl
theorem dX12_init_680 : decode cX12_init 680 = .ok (.bipush 101, 2) := dk_get dk_d03_325 3 rfl
theorem dX12_init_682 : decode cX12_init 682 = .ok (.bipush 32, 2) := dk_get dk_d03_325 4 rfl
theorem dX12_init_684 : decode cX12_init 684 = .ok (.iastore, 1) := dk_get dk_d03_325 5 rfl
theorem dX12_init_685 : decode cX12_init 685 = .ok (.dup, 1) := dk_get dk_d03_325 6 rfl
theorem dX12_init_686 : decode cX12_init 686 = .ok (.bipush 102, 2) := dk_get dk_d03_325 7 rfl
theorem dX12_init_688 : decode cX12_init 688 = .ok (.bipush 111, 2) := dk_get dk_d03_325 8 rfl
theorem dX12_init_690 : decode cX12_init 690 = .ok (.iastore, 1) := dk_get dk_d03_325 9 rfl
theorem dX12_init_691 : decode cX12_init 691 = .ok (.dup, 1) := dk_get dk_d03_325 10 rfl
theorem dX12_init_692 : decode cX12_init 692 = .ok (.bipush 103, 2) := dk_get dk_d03_325 11 rfl
theorem dX12_init_694 : decode cX12_init 694 = .ok (.bipush 110, 2) := dk_get dk_d03_325 12 rfl
theorem dX12_init_696 : decode cX12_init 696 = .ok (.iastore, 1) := dk_get dk_d03_325 13 rfl
theorem dX12_init_697 : decode cX12_init 697 = .ok (.dup, 1) := dk_get dk_d03_325 14 rfl
theorem dX12_init_698 : decode cX12_init 698 = .ok (.bipush 104, 2) := dk_get dk_d03_325 15 rfl
theorem dX12_init_700 : decode cX12_init 700 = .ok (.bipush 32, 2) := dk_get dk_d03_325 16 rfl
theorem dX12_init_702 : decode cX12_init 702 = .ok (.iastore, 1) := dk_get dk_d03_325 17 rfl
theorem dX12_init_703 : decode cX12_init 703 = .ok (.dup, 1) := dk_get dk_d03_325 18 rfl
theorem dX12_init_704 : decode cX12_init 704 = .ok (.bipush 105, 2) := dk_get dk_d03_325 19 rfl
theorem dX12_init_706 : decode cX12_init 706 = .ok (.bipush 112, 2) := dk_get dk_d03_325 20 rfl
theorem dX12_init_708 : decode cX12_init 708 = .ok (.iastore, 1) := dk_get dk_d03_325 21 rfl
theorem dX12_init_709 : decode cX12_init 709 = .ok (.dup, 1) := dk_get dk_d03_325 22 rfl
theorem dX12_init_710 : decode cX12_init 710 = .ok (.bipush 106, 2) := dk_get dk_d03_325 23 rfl
theorem dX12_init_712 : decode cX12_init 712 = .ok (.bipush 117, 2) := dk_get dk_d03_325 24 rfl
theorem dk_d03_326 : dkc cX12_init [(714, .iastore, 1), (715, .dup, 1), (716, .bipush 107, 2), (718, .bipush 116, 2), (720, .iastore, 1), (721, .dup, 1), (722, .bipush 108, 2), (724, .bipush 116, 2), (726, .iastore, 1), (727, .dup, 1), (728, .bipush 109, 2), (730, .bipush 121, 2), (732, .iastore, 1), (733, .dup, 1), (734, .bipush 110, 2), (736, .bipush 32, 2), (738, .iastore, 1), (739, .dup, 1), (740, .bipush 111, 2), (742, .bipush 102, 2), (744, .iastore, 1), (745, .dup, 1), (746, .bipush 112, 2), (748, .bipush 111, 2), (750, .iastore, 1)] = true := by decide +kernel
theorem dX12_init_714 : decode cX12_init 714 = .ok (.iastore, 1) := dk_get dk_d03_326 0 rfl
theorem dX12_init_715 : decode cX12_init 715 = .ok (.dup, 1) := dk_get dk_d03_326 1 rfl
theorem dX12_init_716 : decode cX12_init 716 = .ok (.bipush 107, 2) := dk_get dk_d03_326 2 rfl
theorem dX12_init_718 : decode cX12_init 718 = .ok (.bipush 116, 2) := dk_get dk_d03_326 3 rfl
theorem dX12_init_720 : decode cX12_init 720 = .ok (.iastore, 1) := dk_get dk_d03_326 4 rfl
theorem dX12_init_721 : decode cX12_init 721 = .ok (.dup, 1) := dk_get dk_d03_326 5 rfl
theorem dX12_init_722 : decode cX12_init 722 = .ok (.bipush 108, 2) := dk_get dk_d03_326 6 rfl
theorem dX12_init_724 : decode cX12_init 724 = .ok (.bipush 116, 2) := dk_get dk_d03_326 7 rfl
theorem dX12_init_726 : decode cX12_init 726 = .ok (.iastore, 1) := dk_get dk_d03_326 8 rfl
theorem dX12_init_727 : decode cX12_init 727 = .ok (.dup, 1) := dk_get dk_d03_326 9 rfl
theorem dX12_init_728 : decode cX12_init 728 = .ok (.bipush 109, 2) := dk_get dk_d03_326 10 rfl
theorem dX12_init_730 : decode cX12_init 730 = .ok (.bipush 121, 2) := dk_get dk_d03_326 11 rfl
theorem dX12_init_732 : decode cX12_init 732 = .ok (.iastore, 1) := dk_get dk_d03_326 12 rfl
theorem dX12_init_733 : decode cX12_init 733 = .ok (.dup, 1) := dk_get dk_d03_326 13 rfl
theorem dX12_init_734 : decode cX12_init 734 = .ok (.bipush 110, 2) := dk_get dk_d03_326 14 rfl
theorem dX12_init_736 : decode cX12_init 736 = .ok (.bipush 32, 2) := dk_get dk_d03_326 15 rfl
theorem dX12_init_738 : decode cX12_init 738 = .ok (.iastore, 1) := dk_get dk_d03_326 16 rfl
theorem dX12_init_739 : decode cX12_init 739 = .ok (.dup, 1) := dk_get dk_d03_326 17 rfl
theorem dX12_init_740 : decode cX12_init 740 = .ok (.bipush 111, 2) := dk_get dk_d03_326 18 rfl
theorem dX12_init_742 : decode cX12_init 742 = .ok (.bipush 102, 2) := dk_get dk_d03_326 19 rfl
theorem dX12_init_744 : decode cX12_init 744 = .ok (.iastore, 1) := dk_get dk_d03_326 20 rfl
theorem dX12_init_745 : decode cX12_init 745 = .ok (.dup, 1) := dk_get dk_d03_326 21 rfl
theorem dX12_init_746 : decode cX12_init 746 = .ok (.bipush 112, 2) := dk_get dk_d03_326 22 rfl
theorem dX12_init_748 : decode cX12_init 748 = .ok (.bipush 111, 2) := dk_get dk_d03_326 23 rfl
theorem dX12_init_750 : decode cX12_init 750 = .ok (.iastore, 1) := dk_get dk_d03_326 24 rfl
theorem dk_d03_327 : dkc cX12_init [(751, .dup, 1), (752, .bipush 113, 2), (754, .bipush 114, 2), (756, .iastore, 1), (757, .dup, 1), (758, .bipush 114, 2), (760, .bipush 32, 2), (762, .iastore, 1), (763, .dup, 1), (764, .bipush 115, 2), (766, .bipush 97, 2), (768, .iastore, 1), (769, .dup, 1), (770, .bipush 116, 2), (772, .bipush 103, 2), (774, .iastore, 1), (775, .dup, 1), (776, .bipush 117, 2), (778, .bipush 97, 2), (780, .iastore, 1), (781, .dup, 1), (782, .bipush 118, 2), (784, .bipush 105, 2), (786, .iastore, 1), (787, .dup, 1)] = true := by decide +kernel
theorem dX12_init_751 : decode cX12_init 751 = .ok (.dup, 1) := dk_get dk_d03_327 0 rfl
theorem dX12_init_752 : decode cX12_init 752 = .ok (.bipush 113, 2) := dk_get dk_d03_327 1 rfl
theorem dX12_init_754 : decode cX12_init 754 = .ok (.bipush 114, 2) := dk_get dk_d03_327 2 rfl
theorem dX12_init_756 : decode cX12_init 756 = .ok (.iastore, 1) := dk_get dk_d03_327 3 rfl
theorem dX12_init_757 : decode cX12_init 757 = .ok (.dup, 1) := dk_get dk_d03_327 4 rfl
theorem dX12_init_758 : decode cX12_init 758 = .ok (.bipush 114, 2) := dk_get dk_d03_327 5 rfl
theorem dX12_init_760 : decode cX12_init 760 = .ok (.bipush 32, 2) := dk_get dk_d03_327 6 rfl
theorem dX12_init_762 : decode cX12_init 762 = .ok (.iastore, 1) := dk_get dk_d03_327 7 rfl
theorem dX12_init_763 : decode cX12_init 763 = .ok (.dup, 1) := dk_get dk_d03_327 8 rfl
theorem dX12_init_764 : decode cX12_init 764 = .ok (.bipush 115, 2) := dk_get dk_d03_327 9 rfl
theorem dX12_init_766 : decode cX12_init 766 = .ok (.bipush 97, 2) := dk_get dk_d03_327 10 rfl
theorem dX12_init_768 : decode cX12_init 768 = .ok (.iastore, 1) := dk_get dk_d03_327 11 rfl
theorem dX12_init_769 : decode cX12_init 769 = .ok (.dup, 1) := dk_get dk_d03_327 12 rfl
theorem dX12_init_770 : decode cX12_init 770 = .ok (.bipush 116, 2) := dk_get dk_d03_327 13 rfl
theorem dX12_init_772 : decode cX12_init 772 = .ok (.bipush 103, 2) := dk_get dk_d03_327 14 rfl
theorem dX12_init_774 : decode cX12_init 774 = .ok (.iastore, 1) := dk_get dk_d03_327 15 rfl
theorem dX12_init_775 : decode cX12_init 775 = .ok (.dup, 1) := dk_get dk_d03_327 16 rfl
theorem dX12_init_776 : decode cX12_init 776 = .ok (.bipush 117, 2) := dk_get dk_d03_327 17 rfl
theorem dX12_init_778 : decode cX12_init 778 = .ok (.bipush 97, 2) := dk_get dk_d03_327 18 rfl
theorem dX12_init_780 : decode cX12_init 780 = .ok (.iastore, 1) := dk_get dk_d03_327 19 rfl
theorem dX12_init_781 : decode cX12_init 781 = .ok (.dup, 1) := dk_get dk_d03_327 20 rfl
theorem dX12_init_782 : decode cX12_init 782 = .ok (.bipush 118, 2) := dk_get dk_d03_327 21 rfl
theorem dX12_init_784 : decode cX12_init 784 = .ok (.bipush 105, 2) := dk_get dk_d03_327 22 rfl
theorem dX12_init_786 : decode cX12_init 786 = .ok (.iastore, 1) := dk_get dk_d03_327 23 rfl
theorem dX12_init_787 : decode cX12_init 787 = .ok (.dup, 1) := dk_get dk_d03_327 24 rfl
theorem dk_d03_328 : dkc cX12_init [(788, .bipush 119, 2), (790, .bipush 110, 2), (792, .iastore, 1), (793, .dup, 1), (794, .bipush 120, 2), (796, .bipush 115, 2), (798, .iastore, 1), (799, .dup, 1), (800, .bipush 121, 2), (802, .bipush 116, 2), (804, .iastore, 1), (805, .dup, 1), (806, .bipush 122, 2), (808, .bipush 32, 2), (810, .iastore, 1), (811, .dup, 1), (812, .bipush 123, 2), (814, .bipush 110, 2), (816, .iastore, 1), (817, .dup, 1), (818, .bipush 124, 2), (820, .bipush 111, 2), (822, .iastore, 1), (823, .dup, 1), (824, .bipush 125, 2)] = true := by decide +kernel
theorem dX12_init_788 : decode cX12_init 788 = .ok (.bipush 119, 2) := dk_get dk_d03_328 0 rfl
theorem dX12_init_790 : decode cX12_init 790 = .ok (.bipush 110, 2) := dk_get dk_d03_328 1 rfl
theorem dX12_init_792 : decode cX12_init 792 = .ok (.iastore, 1) := dk_get dk_d03_328 2 rfl
theorem dX12_init_793 : decode cX12_init 793 = .ok (.dup, 1) := dk_get dk_d03_328 3 rfl
theorem dX12_init_794 : decode cX12_init 794 = .ok (.bipush 120, 2) := dk_get dk_d03_328 4 rfl
theorem dX12_init_796 : decode cX12_init 796 = .ok (.bipush 115, 2) := dk_get dk_d03_328 5 rfl
theorem dX12_init_798 : decode cX12_init 798 = .ok (.iastore, 1) := dk_get dk_d03_328 6 rfl
theorem dX12_init_799 : decode cX12_init 799 = .ok (.dup, 1) := dk_get dk_d03_328 7 rfl
theorem dX12_init_800 : decode cX12_init 800 = .ok (.bipush 121, 2) := dk_get dk_d03_328 8 rfl
theorem dX12_init_802 : decode cX12_init 802 = .ok (.bipush 116, 2) := dk_get dk_d03_328 9 rfl
theorem dX12_init_804 : decode cX12_init 804 = .ok (.iastore, 1) := dk_get dk_d03_328 10 rfl
theorem dX12_init_805 : decode cX12_init 805 = .ok (.dup, 1) := dk_get dk_d03_328 11 rfl
theorem dX12_init_806 : decode cX12_init 806 = .ok (.bipush 122, 2) := dk_get dk_d03_328 12 rfl
theorem dX12_init_808 : decode cX12_init 808 = .ok (.bipush 32, 2) := dk_get dk_d03_328 13 rfl
theorem dX12_init_810 : decode cX12_init 810 = .ok (.iastore, 1) := dk_get dk_d03_328 14 rfl
theorem dX12_init_811 : decode cX12_init 811 = .ok (.dup, 1) := dk_get dk_d03_328 15 rfl
theorem dX12_init_812 : decode cX12_init 812 = .ok (.bipush 123, 2) := dk_get dk_d03_328 16 rfl
theorem dX12_init_814 : decode cX12_init 814 = .ok (.bipush 110, 2) := dk_get dk_d03_328 17 rfl
theorem dX12_init_816 : decode cX12_init 816 = .ok (.iastore, 1) := dk_get dk_d03_328 18 rfl
theorem dX12_init_817 : decode cX12_init 817 = .ok (.dup, 1) := dk_get dk_d03_328 19 rfl
theorem dX12_init_818 : decode cX12_init 818 = .ok (.bipush 124, 2) := dk_get dk_d03_328 20 rfl
theorem dX12_init_820 : decode cX12_init 820 = .ok (.bipush 111, 2) := dk_get dk_d03_328 21 rfl
theorem dX12_init_822 : decode cX12_init 822 = .ok (.iastore, 1) := dk_get dk_d03_328 22 rfl
theorem dX12_init_823 : decode cX12_init 823 = .ok (.dup, 1) := dk_get dk_d03_328 23 rfl
theorem dX12_init_824 : decode cX12_init 824 = .ok (.bipush 125, 2) := dk_get dk_d03_328 24 rfl
theorem dk_d03_329 : dkc cX12_init [(826, .bipush 110, 2), (828, .iastore, 1), (829, .dup, 1), (830, .bipush 126, 2), (832, .bipush 101, 2), (834, .iastore, 1), (835, .dup, 1), (836, .bipush 127, 2), (838, .bipush 32, 2), (840, .iastore, 1), (841, .dup, 1), (842, .sipush 128, 3), (845, .bipush 116, 2), (847, .iastore, 1), (848, .dup, 1), (849, .sipush 129, 3), (852, .bipush 119, 2), (854, .iastore, 1), (855, .dup, 1), (856, .sipush 130, 3), (859, .bipush 105, 2), (861, .iastore, 1), (862, .dup, 1), (863, .sipush 131, 3), (866, .bipush 110, 2)] = true := by decide +kernel
theorem dX12_init_826 : decode cX12_init 826 = .ok (.bipush 110, 2) := dk_get dk_d03_329 0 rfl
theorem dX12_init_828 : decode cX12_init 828 = .ok (.iastore, 1) := dk_get dk_d03_329 1 rfl
theorem dX12_init_829 : decode cX12_init 829 = .ok (.dup, 1) := dk_get dk_d03_329 2 rfl
theorem dX12_init_830 : decode cX12_init 830 = .ok (.bipush 126, 2) := dk_get dk_d03_329 3 rfl
theorem dX12_init_832 : decode cX12_init 832 = .ok (.bipush 101, 2) := dk_get dk_d03_329 4 rfl
theorem dX12_init_834 : decode cX12_init 834 = .ok (.iastore, 1) := dk_get dk_d03_329 5 rfl
theorem dX12_init_835 : decode cX12_init 835 = .ok (.dup, 1) := dk_get dk_d03_329 6 rfl
theorem dX12_init_836 : decode cX12_init 836 = .ok (.bipush 127, 2) := dk_get dk_d03_329 7 rfl
theorem dX12_init_838 : decode cX12_init 838 = .ok (.bipush 32, 2) := dk_get dk_d03_329 8 rfl
theorem dX12_init_840 : decode cX12_init 840 = .ok (.iastore, 1) := dk_get dk_d03_329 9 rfl
theorem dX12_init_841 : decode cX12_init 841 = .ok (.dup, 1) := dk_get dk_d03_329 10 rfl
theorem dX12_init_842 : decode cX12_init 842 = .ok (.sipush 128, 3) := dk_get dk_d03_329 11 rfl
theorem dX12_init_845 : decode cX12_init 845 = .ok (.bipush 116, 2) := dk_get dk_d03_329 12 rfl
theorem dX12_init_847 : decode cX12_init 847 = .ok (.iastore, 1) := dk_get dk_d03_329 13 rfl
theorem dX12_init_848 : decode cX12_init 848 = .ok (.dup, 1) := dk_get dk_d03_329 14 rfl
theorem dX12_init_849 : decode cX12_init 849 = .ok (.sipush 129, 3) := dk_get dk_d03_329 15 rfl
theorem dX12_init_852 : decode cX12_init 852 = .ok (.bipush 119, 2) := dk_get dk_d03_329 16 rfl
theorem dX12_init_854 : decode cX12_init 854 = .ok (.iastore, 1) := dk_get dk_d03_329 17 rfl
theorem dX12_init_855 : decode cX12_init 855 = .ok (.dup, 1) := dk_get dk_d03_329 18 rfl
theorem dX12_init_856 : decode cX12_init 856 = .ok (.sipush 130, 3) := dk_get dk_d03_329 19 rfl
theorem dX12_init_859 : decode cX12_init 859 = .ok (.bipush 105, 2) := dk_get dk_d03_329 20 rfl
theorem dX12_init_861 : decode cX12_init 861 = .ok (.iastore, 1) := dk_get dk_d03_329 21 rfl
theorem dX12_init_862 : decode cX12_init 862 = .ok (.dup, 1) := dk_get dk_d03_329 22 rfl
theorem dX12_init_863 : decode cX12_init 863 = .ok (.sipush 131, 3) := dk_get dk_d03_329 23 rfl
theorem dX12_init_866 : decode cX12_init 866 = .ok (.bipush 110, 2) := dk_get dk_d03_329 24 rfl
theorem dk_d03_330 : dkc cX12_init [(868, .iastore, 1), (869, .dup, 1), (870, .sipush 132, 3), (873, .bipush 32, 2), (875, .iastore, 1), (876, .putfield 34, 3), (879, .aload_n 0, 1), (880, .iconst 2, 1), (881, .newarray .int, 2), (883, .putfield 37, 3), (886, .aload_n 0, 1), (887, .bipush 48, 2), (889, .newarray .int, 2), (891, .putfield 40, 3), (894, .aload_n 0, 1), (895, .bipush 48, 2), (897, .newarray .int, 2), (899, .putfield 43, 3), (902, .aload_n 0, 1), (903, .bipush 48, 2), (905, .newarray .int, 2), (907, .putfield 46, 3), (910, .aload_n 0, 1), (911, .bipush 48, 2), (913, .newarray .int, 2)] = true := by decide +kernel
theorem dX12_init_868 : decode cX12_init 868 = .ok (.iastore, 1) := dk_get dk_d03_330 0 rfl
theorem dX12_init_869 : decode cX12_init 869 = .ok (.dup, 1) := dk_get dk_d03_330 1 rfl
theorem dX12_init_870 : decode cX12_init 870 = .ok (.sipush 132, 3) := dk_get dk_d03_330 2 rfl
theorem dX12_init_873 : decode cX12_init 873 = .ok (.bipush 32, 2) := dk_get dk_d03_330 3 rfl
theorem dX12_init_875 : decode cX12_init 875 = .ok (.iastore, 1) := dk_get dk_d03_330 4 rfl
theorem dX12_init_876 : decode cX12_init 876 = .ok (.putfield 34, 3) := dk_get dk_d03_330 5 rfl
theorem dX12_init_879 : decode cX12_init 879 = .ok (.aload_n 0, 1) := dk_get dk_d03_330 6 rfl
theorem dX12_init_880 : decode cX12_init 880 = .ok (.iconst 2, 1) := dk_get dk_d03_330 7 rfl
theorem dX12_init_881 : decode cX12_init 881 = .ok (.newarray .int, 2) := dk_get dk_d03_330 8 rfl
theorem dX12_init_883 : decode cX12_init 883 = .ok (.putfield 37, 3) := dk_get dk_d03_330 9 rfl
theorem dX12_init_886 : decode cX12_init 886 = .ok (.aload_n 0, 1) := dk_get dk_d03_330 10 rfl
theorem dX12_init_887 : decode cX12_init 887 = .ok (.bipush 48, 2) := dk_get dk_d03_330 11 rfl
theorem dX12_init_889 : decode cX12_init 889 = .ok (.newarray .int, 2) := dk_get dk_d03_330 12 rfl
theorem dX12_init_891 : decode cX12_init 891 = .ok (.putfield 40, 3) := dk_get dk_d03_330 13 rfl
theorem dX12_init_894 : decode cX12_init 894 = .ok (.aload_n 0, 1) := dk_get dk_d03_330 14 rfl
theorem dX12_init_895 : decode cX12_init 895 = .ok (.bipush 48, 2) := dk_get dk_d03_330 15 rfl
theorem dX12_init_897 : decode cX12_init 897 = .ok (.newarray .int, 2) := dk_get dk_d03_330 16 rfl
theorem dX12_init_899 : decode cX12_init 899 = .ok (.putfield 43, 3) := dk_get dk_d03_330 17 rfl
theorem dX12_init_902 : decode cX12_init 902 = .ok (.aload_n 0, 1) := dk_get dk_d03_330 18 rfl
theorem dX12_init_903 : decode cX12_init 903 = .ok (.bipush 48, 2) := dk_get dk_d03_330 19 rfl
theorem dX12_init_905 : decode cX12_init 905 = .ok (.newarray .int, 2) := dk_get dk_d03_330 20 rfl
theorem dX12_init_907 : decode cX12_init 907 = .ok (.putfield 46, 3) := dk_get dk_d03_330 21 rfl
theorem dX12_init_910 : decode cX12_init 910 = .ok (.aload_n 0, 1) := dk_get dk_d03_330 22 rfl
theorem dX12_init_911 : decode cX12_init 911 = .ok (.bipush 48, 2) := dk_get dk_d03_330 23 rfl
theorem dX12_init_913 : decode cX12_init 913 = .ok (.newarray .int, 2) := dk_get dk_d03_330 24 rfl
theorem dk_d03_331 : dkc cX12_init [(915, .putfield 49, 3), (918, .aload_n 0, 1), (919, .sipush 1200, 3), (922, .newarray .int, 2), (924, .putfield 52, 3), (927, .aload_n 0, 1), (928, .sipush 1200, 3), (931, .newarray .int, 2), (933, .putfield 55, 3), (936, .aload_n 0, 1), (937, .bipush 40, 2), (939, .newarray .int, 2), (941, .putfield 58, 3), (944, .aload_n 0, 1), (945, .iconst (-1), 1), (946, .putfield 61, 3), (949, .aload_n 0, 1), (950, .bipush 96, 2), (952, .newarray .int, 2), (954, .putfield 65, 3), (957, .aload_n 0, 1), (958, .sipush 160, 3), (961, .newarray .int, 2), (963, .putfield 68, 3), (966, .aload_n 0, 1)] = true := by decide +kernel
theorem dX12_init_915 : decode cX12_init 915 = .ok (.putfield 49, 3) := dk_get dk_d03_331 0 rfl
theorem dX12_init_918 : decode cX12_init 918 = .ok (.aload_n 0, 1) := dk_get dk_d03_331 1 rfl
theorem dX12_init_919 : decode cX12_init 919 = .ok (.sipush 1200, 3) := dk_get dk_d03_331 2 rfl
theorem dX12_init_922 : decode cX12_init 922 = .ok (.newarray .int, 2) := dk_get dk_d03_331 3 rfl
theorem dX12_init_924 : decode cX12_init 924 = .ok (.putfield 52, 3) := dk_get dk_d03_331 4 rfl
theorem dX12_init_927 : decode cX12_init 927 = .ok (.aload_n 0, 1) := dk_get dk_d03_331 5 rfl
theorem dX12_init_928 : decode cX12_init 928 = .ok (.sipush 1200, 3) := dk_get dk_d03_331 6 rfl
theorem dX12_init_931 : decode cX12_init 931 = .ok (.newarray .int, 2) := dk_get dk_d03_331 7 rfl
theorem dX12_init_933 : decode cX12_init 933 = .ok (.putfield 55, 3) := dk_get dk_d03_331 8 rfl
theorem dX12_init_936 : decode cX12_init 936 = .ok (.aload_n 0, 1) := dk_get dk_d03_331 9 rfl
theorem dX12_init_937 : decode cX12_init 937 = .ok (.bipush 40, 2) := dk_get dk_d03_331 10 rfl
theorem dX12_init_939 : decode cX12_init 939 = .ok (.newarray .int, 2) := dk_get dk_d03_331 11 rfl
theorem dX12_init_941 : decode cX12_init 941 = .ok (.putfield 58, 3) := dk_get dk_d03_331 12 rfl
theorem dX12_init_944 : decode cX12_init 944 = .ok (.aload_n 0, 1) := dk_get dk_d03_331 13 rfl
theorem dX12_init_945 : decode cX12_init 945 = .ok (.iconst (-1), 1) := dk_get dk_d03_331 14 rfl
theorem dX12_init_946 : decode cX12_init 946 = .ok (.putfield 61, 3) := dk_get dk_d03_331 15 rfl
theorem dX12_init_949 : decode cX12_init 949 = .ok (.aload_n 0, 1) := dk_get dk_d03_331 16 rfl
theorem dX12_init_950 : decode cX12_init 950 = .ok (.bipush 96, 2) := dk_get dk_d03_331 17 rfl
theorem dX12_init_952 : decode cX12_init 952 = .ok (.newarray .int, 2) := dk_get dk_d03_331 18 rfl
theorem dX12_init_954 : decode cX12_init 954 = .ok (.putfield 65, 3) := dk_get dk_d03_331 19 rfl
theorem dX12_init_957 : decode cX12_init 957 = .ok (.aload_n 0, 1) := dk_get dk_d03_331 20 rfl
theorem dX12_init_958 : decode cX12_init 958 = .ok (.sipush 160, 3) := dk_get dk_d03_331 21 rfl
theorem dX12_init_961 : decode cX12_init 961 = .ok (.newarray .int, 2) := dk_get dk_d03_331 22 rfl
theorem dX12_init_963 : decode cX12_init 963 = .ok (.putfield 68, 3) := dk_get dk_d03_331 23 rfl
theorem dX12_init_966 : decode cX12_init 966 = .ok (.aload_n 0, 1) := dk_get dk_d03_331 24 rfl
theorem dk_d03_332 : dkc cX12_init [(967, .bipush 40, 2), (969, .newarray .int, 2), (971, .putfield 71, 3), (974, .aload_n 0, 1), (975, .bipush 10, 2), (977, .newarray .int, 2), (979, .putfield 74, 3), (982, .aload_n 0, 1), (983, .sipush 420, 3), (986, .newarray .int, 2), (988, .putfield 77, 3), (991, .aload_n 0, 1), (992, .sipush 144, 3), (995, .newarray .int, 2), (997, .putfield 80, 3), (1000, .aload_n 0, 1), (1001, .bipush 6, 2), (1003, .newarray .int, 2), (1005, .putfield 83, 3), (1008, .aload_n 0, 1), (1009, .bipush 6, 2), (1011, .newarray .int, 2), (1013, .putfield 86, 3), (1016, .aload_n 0, 1), (1017, .bipush 16, 2)] = true := by decide +kernel
theorem dX12_init_967 : decode cX12_init 967 = .ok (.bipush 40, 2) := dk_get dk_d03_332 0 rfl
theorem dX12_init_969 : decode cX12_init 969 = .ok (.newarray .int, 2) := dk_get dk_d03_332 1 rfl
theorem dX12_init_971 : decode cX12_init 971 = .ok (.putfield 71, 3) := dk_get dk_d03_332 2 rfl
theorem dX12_init_974 : decode cX12_init 974 = .ok (.aload_n 0, 1) := dk_get dk_d03_332 3 rfl
theorem dX12_init_975 : decode cX12_init 975 = .ok (.bipush 10, 2) := dk_get dk_d03_332 4 rfl
theorem dX12_init_977 : decode cX12_init 977 = .ok (.newarray .int, 2) := dk_get dk_d03_332 5 rfl
theorem dX12_init_979 : decode cX12_init 979 = .ok (.putfield 74, 3) := dk_get dk_d03_332 6 rfl
theorem dX12_init_982 : decode cX12_init 982 = .ok (.aload_n 0, 1) := dk_get dk_d03_332 7 rfl
theorem dX12_init_983 : decode cX12_init 983 = .ok (.sipush 420, 3) := dk_get dk_d03_332 8 rfl
theorem dX12_init_986 : decode cX12_init 986 = .ok (.newarray .int, 2) := dk_get dk_d03_332 9 rfl
theorem dX12_init_988 : decode cX12_init 988 = .ok (.putfield 77, 3) := dk_get dk_d03_332 10 rfl
theorem dX12_init_991 : decode cX12_init 991 = .ok (.aload_n 0, 1) := dk_get dk_d03_332 11 rfl
theorem dX12_init_992 : decode cX12_init 992 = .ok (.sipush 144, 3) := dk_get dk_d03_332 12 rfl
theorem dX12_init_995 : decode cX12_init 995 = .ok (.newarray .int, 2) := dk_get dk_d03_332 13 rfl
theorem dX12_init_997 : decode cX12_init 997 = .ok (.putfield 80, 3) := dk_get dk_d03_332 14 rfl
theorem dX12_init_1000 : decode cX12_init 1000 = .ok (.aload_n 0, 1) := dk_get dk_d03_332 15 rfl
theorem dX12_init_1001 : decode cX12_init 1001 = .ok (.bipush 6, 2) := dk_get dk_d03_332 16 rfl
theorem dX12_init_1003 : decode cX12_init 1003 = .ok (.newarray .int, 2) := dk_get dk_d03_332 17 rfl
theorem dX12_init_1005 : decode cX12_init 1005 = .ok (.putfield 83, 3) := dk_get dk_d03_332 18 rfl
theorem dX12_init_1008 : decode cX12_init 1008 = .ok (.aload_n 0, 1) := dk_get dk_d03_332 19 rfl
theorem dX12_init_1009 : decode cX12_init 1009 = .ok (.bipush 6, 2) := dk_get dk_d03_332 20 rfl
theorem dX12_init_1011 : decode cX12_init 1011 = .ok (.newarray .int, 2) := dk_get dk_d03_332 21 rfl
theorem dX12_init_1013 : decode cX12_init 1013 = .ok (.putfield 86, 3) := dk_get dk_d03_332 22 rfl
theorem dX12_init_1016 : decode cX12_init 1016 = .ok (.aload_n 0, 1) := dk_get dk_d03_332 23 rfl
theorem dX12_init_1017 : decode cX12_init 1017 = .ok (.bipush 16, 2) := dk_get dk_d03_332 24 rfl
theorem dk_d03_333 : dkc cX12_init [(1019, .newarray .int, 2), (1021, .putfield 89, 3), (1024, .aload_n 0, 1), (1025, .sipush 153, 3), (1028, .newarray .int, 2), (1030, .putfield 92, 3), (1033, .aload_n 0, 1), (1034, .sipush 153, 3), (1037, .newarray .int, 2), (1039, .putfield 95, 3), (1042, .aload_n 0, 1), (1043, .bipush 15, 2), (1045, .newarray .int, 2), (1047, .putfield 98, 3), (1050, .aload_n 0, 1), (1051, .bipush 15, 2), (1053, .newarray .int, 2), (1055, .putfield 101, 3), (1058, .aload_n 0, 1), (1059, .bipush 8, 2), (1061, .newarray .int, 2), (1063, .putfield 104, 3), (1066, .aload_n 0, 1), (1067, .sipush 401, 3), (1070, .newarray .int, 2)] = true := by decide +kernel
theorem dX12_init_1019 : decode cX12_init 1019 = .ok (.newarray .int, 2) := dk_get dk_d03_333 0 rfl
theorem dX12_init_1021 : decode cX12_init 1021 = .ok (.putfield 89, 3) := dk_get dk_d03_333 1 rfl
theorem dX12_init_1024 : decode cX12_init 1024 = .ok (.aload_n 0, 1) := dk_get dk_d03_333 2 rfl
theorem dX12_init_1025 : decode cX12_init 1025 = .ok (.sipush 153, 3) := dk_get dk_d03_333 3 rfl
theorem dX12_init_1028 : decode cX12_init 1028 = .ok (.newarray .int, 2) := dk_get dk_d03_333 4 rfl
theorem dX12_init_1030 : decode cX12_init 1030 = .ok (.putfield 92, 3) := dk_get dk_d03_333 5 rfl
theorem dX12_init_1033 : decode cX12_init 1033 = .ok (.aload_n 0, 1) := dk_get dk_d03_333 6 rfl
theorem dX12_init_1034 : decode cX12_init 1034 = .ok (.sipush 153, 3) := dk_get dk_d03_333 7 rfl
theorem dX12_init_1037 : decode cX12_init 1037 = .ok (.newarray .int, 2) := dk_get dk_d03_333 8 rfl
theorem dX12_init_1039 : decode cX12_init 1039 = .ok (.putfield 95, 3) := dk_get dk_d03_333 9 rfl
theorem dX12_init_1042 : decode cX12_init 1042 = .ok (.aload_n 0, 1) := dk_get dk_d03_333 10 rfl
theorem dX12_init_1043 : decode cX12_init 1043 = .ok (.bipush 15, 2) := dk_get dk_d03_333 11 rfl
theorem dX12_init_1045 : decode cX12_init 1045 = .ok (.newarray .int, 2) := dk_get dk_d03_333 12 rfl
theorem dX12_init_1047 : decode cX12_init 1047 = .ok (.putfield 98, 3) := dk_get dk_d03_333 13 rfl
theorem dX12_init_1050 : decode cX12_init 1050 = .ok (.aload_n 0, 1) := dk_get dk_d03_333 14 rfl
theorem dX12_init_1051 : decode cX12_init 1051 = .ok (.bipush 15, 2) := dk_get dk_d03_333 15 rfl
theorem dX12_init_1053 : decode cX12_init 1053 = .ok (.newarray .int, 2) := dk_get dk_d03_333 16 rfl
theorem dX12_init_1055 : decode cX12_init 1055 = .ok (.putfield 101, 3) := dk_get dk_d03_333 17 rfl
theorem dX12_init_1058 : decode cX12_init 1058 = .ok (.aload_n 0, 1) := dk_get dk_d03_333 18 rfl
theorem dX12_init_1059 : decode cX12_init 1059 = .ok (.bipush 8, 2) := dk_get dk_d03_333 19 rfl
theorem dX12_init_1061 : decode cX12_init 1061 = .ok (.newarray .int, 2) := dk_get dk_d03_333 20 rfl
theorem dX12_init_1063 : decode cX12_init 1063 = .ok (.putfield 104, 3) := dk_get dk_d03_333 21 rfl
theorem dX12_init_1066 : decode cX12_init 1066 = .ok (.aload_n 0, 1) := dk_get dk_d03_333 22 rfl
theorem dX12_init_1067 : decode cX12_init 1067 = .ok (.sipush 401, 3) := dk_get dk_d03_333 23 rfl
theorem dX12_init_1070 : decode cX12_init 1070 = .ok (.newarray .int, 2) := dk_get dk_d03_333 24 rfl
theorem dk_d03_334 : dkc cX12_init [(1072, .putfield 107, 3), (1075, .aload_n 0, 1), (1076, .bipush 8, 2), (1078, .newarray .int, 2), (1080, .putfield 110, 3), (1083, .aload_n 0, 1), (1084, .bipush 8, 2), (1086, .newarray .int, 2), (1088, .putfield 113, 3), (1091, .aload_n 0, 1), (1092, .sipush 256, 3), (1095, .newarray .int, 2), (1097, .putfield 116, 3), (1100, .aload_n 0, 1), (1101, .bipush 12, 2), (1103, .newarray .int, 2), (1105, .putfield 119, 3), (1108, .aload_n 0, 1), (1109, .bipush 8, 2), (1111, .newarray .int, 2), (1113, .putfield 122, 3), (1116, .aload_n 0, 1), (1117, .bipush 8, 2), (1119, .newarray .int, 2), (1121, .putfield 125, 3)] = true := by decide +kernel
theorem dX12_init_1072 : decode cX12_init 1072 = .ok (.putfield 107, 3) := dk_get dk_d03_334 0 rfl
theorem dX12_init_1075 : decode cX12_init 1075 = .ok (.aload_n 0, 1) := dk_get dk_d03_334 1 rfl
theorem dX12_init_1076 : decode cX12_init 1076 = .ok (.bipush 8, 2) := dk_get dk_d03_334 2 rfl
theorem dX12_init_1078 : decode cX12_init 1078 = .ok (.newarray .int, 2) := dk_get dk_d03_334 3 rfl
theorem dX12_init_1080 : decode cX12_init 1080 = .ok (.putfield 110, 3) := dk_get dk_d03_334 4 rfl
theorem dX12_init_1083 : decode cX12_init 1083 = .ok (.aload_n 0, 1) := dk_get dk_d03_334 5 rfl
theorem dX12_init_1084 : decode cX12_init 1084 = .ok (.bipush 8, 2) := dk_get dk_d03_334 6 rfl
theorem dX12_init_1086 : decode cX12_init 1086 = .ok (.newarray .int, 2) := dk_get dk_d03_334 7 rfl
theorem dX12_init_1088 : decode cX12_init 1088 = .ok (.putfield 113, 3) := dk_get dk_d03_334 8 rfl
theorem dX12_init_1091 : decode cX12_init 1091 = .ok (.aload_n 0, 1) := dk_get dk_d03_334 9 rfl
theorem dX12_init_1092 : decode cX12_init 1092 = .ok (.sipush 256, 3) := dk_get dk_d03_334 10 rfl
theorem dX12_init_1095 : decode cX12_init 1095 = .ok (.newarray .int, 2) := dk_get dk_d03_334 11 rfl
theorem dX12_init_1097 : decode cX12_init 1097 = .ok (.putfield 116, 3) := dk_get dk_d03_334 12 rfl
theorem dX12_init_1100 : decode cX12_init 1100 = .ok (.aload_n 0, 1) := dk_get dk_d03_334 13 rfl
theorem dX12_init_1101 : decode cX12_init 1101 = .ok (.bipush 12, 2) := dk_get dk_d03_334 14 rfl
theorem dX12_init_1103 : decode cX12_init 1103 = .ok (.newarray .int, 2) := dk_get dk_d03_334 15 rfl
theorem dX12_init_1105 : decode cX12_init 1105 = .ok (.putfield 119, 3) := dk_get dk_d03_334 16 rfl
theorem dX12_init_1108 : decode cX12_init 1108 = .ok (.aload_n 0, 1) := dk_get dk_d03_334 17 rfl
theorem dX12_init_1109 : decode cX12_init 1109 = .ok (.bipush 8, 2) := dk_get dk_d03_334 18 rfl
theorem dX12_init_1111 : decode cX12_init 1111 = .ok (.newarray .int, 2) := dk_get dk_d03_334 19 rfl
theorem dX12_init_1113 : decode cX12_init 1113 = .ok (.putfield 122, 3) := dk_get dk_d03_334 20 rfl
theorem dX12_init_1116 : decode cX12_init 1116 = .ok (.aload_n 0, 1) := dk_get dk_d03_334 21 rfl
theorem dX12_init_1117 : decode cX12_init 1117 = .ok (.bipush 8, 2) := dk_get dk_d03_334 22 rfl
theorem dX12_init_1119 : decode cX12_init 1119 = .ok (.newarray .int, 2) := dk_get dk_d03_334 23 rfl
theorem dX12_init_1121 : decode cX12_init 1121 = .ok (.putfield 125, 3) := dk_get dk_d03_334 24 rfl
theorem dk_d03_335 : dkc cX12_init [(1124, .aload_n 0, 1), (1125, .sipush 256, 3), (1128, .newarray .int, 2), (1130, .putfield 128, 3), (1133, .aload_n 0, 1), (1134, .sipush 19683, 3), (1137, .newarray .int, 2), (1139, .putfield 131, 3), (1142, .aload_n 0, 1), (1143, .bipush 9, 2), (1145, .newarray .int, 2), (1147, .putfield 134, 3), (1150, .aload_n 0, 1), (1151, .sipush 2900, 3), (1154, .newarray .int, 2), (1156, .putfield 137, 3), (1159, .return_, 1)] = true := by decide +kernel
theorem dX12_init_1124 : decode cX12_init 1124 = .ok (.aload_n 0, 1) := dk_get dk_d03_335 0 rfl
theorem dX12_init_1125 : decode cX12_init 1125 = .ok (.sipush 256, 3) := dk_get dk_d03_335 1 rfl
theorem dX12_init_1128 : decode cX12_init 1128 = .ok (.newarray .int, 2) := dk_get dk_d03_335 2 rfl
theorem dX12_init_1130 : decode cX12_init 1130 = .ok (.putfield 128, 3) := dk_get dk_d03_335 3 rfl
theorem dX12_init_1133 : decode cX12_init 1133 = .ok (.aload_n 0, 1) := dk_get dk_d03_335 4 rfl
theorem dX12_init_1134 : decode cX12_init 1134 = .ok (.sipush 19683, 3) := dk_get dk_d03_335 5 rfl
theorem dX12_init_1137 : decode cX12_init 1137 = .ok (.newarray .int, 2) := dk_get dk_d03_335 6 rfl
theorem dX12_init_1139 : decode cX12_init 1139 = .ok (.putfield 131, 3) := dk_get dk_d03_335 7 rfl
theorem dX12_init_1142 : decode cX12_init 1142 = .ok (.aload_n 0, 1) := dk_get dk_d03_335 8 rfl
theorem dX12_init_1143 : decode cX12_init 1143 = .ok (.bipush 9, 2) := dk_get dk_d03_335 9 rfl
theorem dX12_init_1145 : decode cX12_init 1145 = .ok (.newarray .int, 2) := dk_get dk_d03_335 10 rfl
theorem dX12_init_1147 : decode cX12_init 1147 = .ok (.putfield 134, 3) := dk_get dk_d03_335 11 rfl
theorem dX12_init_1150 : decode cX12_init 1150 = .ok (.aload_n 0, 1) := dk_get dk_d03_335 12 rfl
theorem dX12_init_1151 : decode cX12_init 1151 = .ok (.sipush 2900, 3) := dk_get dk_d03_335 13 rfl
theorem dX12_init_1154 : decode cX12_init 1154 = .ok (.newarray .int, 2) := dk_get dk_d03_335 14 rfl
theorem dX12_init_1156 : decode cX12_init 1156 = .ok (.putfield 137, 3) := dk_get dk_d03_335 15 rfl
theorem dX12_init_1159 : decode cX12_init 1159 = .ok (.return_, 1) := dk_get dk_d03_335 16 rfl
theorem dk_d03_336 : dkc cX12_isIn [(0, .iload_n 1, 1), (1, .iload_n 2, 1), (2, .if_icmp .lt 12, 3), (5, .iload_n 1, 1), (6, .iload_n 3, 1), (7, .if_icmp .gt 7, 3), (10, .iconst 1, 1), (11, .goto 4, 3), (14, .iconst 0, 1), (15, .ireturn, 1)] = true := by decide +kernel
theorem dX12_isIn_0 : decode cX12_isIn 0 = .ok (.iload_n 1, 1) := dk_get dk_d03_336 0 rfl
theorem dX12_isIn_1 : decode cX12_isIn 1 = .ok (.iload_n 2, 1) := dk_get dk_d03_336 1 rfl
theorem dX12_isIn_2 : decode cX12_isIn 2 = .ok (.if_icmp .lt 12, 3) := dk_get dk_d03_336 2 rfl
theorem dX12_isIn_5 : decode cX12_isIn 5 = .ok (.iload_n 1, 1) := dk_get dk_d03_336 3 rfl
theorem dX12_isIn_6 : decode cX12_isIn 6 = .ok (.iload_n 3, 1) := dk_get dk_d03_336 4 rfl
theorem dX12_isIn_7 : decode cX12_isIn 7 = .ok (.if_icmp .gt 7, 3) := dk_get dk_d03_336 5 rfl
theorem dX12_isIn_10 : decode cX12_isIn 10 = .ok (.iconst 1, 1) := dk_get dk_d03_336 6 rfl
theorem dX12_isIn_11 : decode cX12_isIn 11 = .ok (.goto 4, 3) := dk_get dk_d03_336 7 rfl
theorem dX12_isIn_14 : decode cX12_isIn 14 = .ok (.iconst 0, 1) := dk_get dk_d03_336 8 rfl
theorem dX12_isIn_15 : decode cX12_isIn 15 = .ok (.ireturn, 1) := dk_get dk_d03_336 9 rfl
theorem dk_d03_337 : dkc cX12_held [(0, .iload_n 1, 1), (1, .iload_n 2, 1), (2, .if_icmp .ge 7, 3), (5, .iload_n 2, 1), (6, .goto 13, 3), (9, .iload_n 1, 1), (10, .iload_n 3, 1), (11, .if_icmp .le 7, 3), (14, .iload_n 3, 1), (15, .goto 4, 3), (18, .iload_n 1, 1), (19, .ireturn, 1)] = true := by decide +kernel
theorem dX12_held_0 : decode cX12_held 0 = .ok (.iload_n 1, 1) := dk_get dk_d03_337 0 rfl
theorem dX12_held_1 : decode cX12_held 1 = .ok (.iload_n 2, 1) := dk_get dk_d03_337 1 rfl
theorem dX12_held_2 : decode cX12_held 2 = .ok (.if_icmp .ge 7, 3) := dk_get dk_d03_337 2 rfl
theorem dX12_held_5 : decode cX12_held 5 = .ok (.iload_n 2, 1) := dk_get dk_d03_337 3 rfl
theorem dX12_held_6 : decode cX12_held 6 = .ok (.goto 13, 3) := dk_get dk_d03_337 4 rfl
theorem dX12_held_9 : decode cX12_held 9 = .ok (.iload_n 1, 1) := dk_get dk_d03_337 5 rfl
theorem dX12_held_10 : decode cX12_held 10 = .ok (.iload_n 3, 1) := dk_get dk_d03_337 6 rfl
theorem dX12_held_11 : decode cX12_held 11 = .ok (.if_icmp .le 7, 3) := dk_get dk_d03_337 7 rfl
theorem dX12_held_14 : decode cX12_held 14 = .ok (.iload_n 3, 1) := dk_get dk_d03_337 8 rfl
theorem dX12_held_15 : decode cX12_held 15 = .ok (.goto 4, 3) := dk_get dk_d03_337 9 rfl
theorem dX12_held_18 : decode cX12_held 18 = .ok (.iload_n 1, 1) := dk_get dk_d03_337 10 rfl
theorem dX12_held_19 : decode cX12_held 19 = .ok (.ireturn, 1) := dk_get dk_d03_337 11 rfl
theorem dk_d03_338 : dkc cX12_greater [(0, .iload_n 1, 1), (1, .iload_n 2, 1), (2, .if_icmp .le 7, 3), (5, .iload_n 1, 1), (6, .goto 4, 3), (9, .iload_n 2, 1), (10, .ireturn, 1)] = true := by decide +kernel
theorem dX12_greater_0 : decode cX12_greater 0 = .ok (.iload_n 1, 1) := dk_get dk_d03_338 0 rfl
theorem dX12_greater_1 : decode cX12_greater 1 = .ok (.iload_n 2, 1) := dk_get dk_d03_338 1 rfl
theorem dX12_greater_2 : decode cX12_greater 2 = .ok (.if_icmp .le 7, 3) := dk_get dk_d03_338 2 rfl
theorem dX12_greater_5 : decode cX12_greater 5 = .ok (.iload_n 1, 1) := dk_get dk_d03_338 3 rfl
theorem dX12_greater_6 : decode cX12_greater 6 = .ok (.goto 4, 3) := dk_get dk_d03_338 4 rfl
theorem dX12_greater_9 : decode cX12_greater 9 = .ok (.iload_n 2, 1) := dk_get dk_d03_338 5 rfl
theorem dX12_greater_10 : decode cX12_greater 10 = .ok (.ireturn, 1) := dk_get dk_d03_338 6 rfl
theorem dk_d03_339 : dkc cX12_lesser [(0, .iload_n 1, 1), (1, .iload_n 2, 1), (2, .if_icmp .ge 7, 3), (5, .iload_n 1, 1), (6, .goto 4, 3), (9, .iload_n 2, 1), (10, .ireturn, 1)] = true := by decide +kernel
theorem dX12_lesser_0 : decode cX12_lesser 0 = .ok (.iload_n 1, 1) := dk_get dk_d03_339 0 rfl
theorem dX12_lesser_1 : decode cX12_lesser 1 = .ok (.iload_n 2, 1) := dk_get dk_d03_339 1 rfl
theorem dX12_lesser_2 : decode cX12_lesser 2 = .ok (.if_icmp .ge 7, 3) := dk_get dk_d03_339 2 rfl
theorem dX12_lesser_5 : decode cX12_lesser 5 = .ok (.iload_n 1, 1) := dk_get dk_d03_339 3 rfl
theorem dX12_lesser_6 : decode cX12_lesser 6 = .ok (.goto 4, 3) := dk_get dk_d03_339 4 rfl
theorem dX12_lesser_9 : decode cX12_lesser 9 = .ok (.iload_n 2, 1) := dk_get dk_d03_339 5 rfl
theorem dX12_lesser_10 : decode cX12_lesser 10 = .ok (.ireturn, 1) := dk_get dk_d03_339 6 rfl
theorem dk_d03_340 : dkc cX12_apart [(0, .iload_n 1, 1), (1, .iload_n 2, 1), (2, .if_icmp .le 9, 3), (5, .iload_n 1, 1), (6, .iload_n 2, 1), (7, .isub, 1), (8, .goto 6, 3), (11, .iload_n 2, 1), (12, .iload_n 1, 1), (13, .isub, 1), (14, .ireturn, 1)] = true := by decide +kernel
theorem dX12_apart_0 : decode cX12_apart 0 = .ok (.iload_n 1, 1) := dk_get dk_d03_340 0 rfl
theorem dX12_apart_1 : decode cX12_apart 1 = .ok (.iload_n 2, 1) := dk_get dk_d03_340 1 rfl
theorem dX12_apart_2 : decode cX12_apart 2 = .ok (.if_icmp .le 9, 3) := dk_get dk_d03_340 2 rfl
theorem dX12_apart_5 : decode cX12_apart 5 = .ok (.iload_n 1, 1) := dk_get dk_d03_340 3 rfl
theorem dX12_apart_6 : decode cX12_apart 6 = .ok (.iload_n 2, 1) := dk_get dk_d03_340 4 rfl
theorem dX12_apart_7 : decode cX12_apart 7 = .ok (.isub, 1) := dk_get dk_d03_340 5 rfl
theorem dX12_apart_8 : decode cX12_apart 8 = .ok (.goto 6, 3) := dk_get dk_d03_340 6 rfl
theorem dX12_apart_11 : decode cX12_apart 11 = .ok (.iload_n 2, 1) := dk_get dk_d03_340 7 rfl
theorem dX12_apart_12 : decode cX12_apart 12 = .ok (.iload_n 1, 1) := dk_get dk_d03_340 8 rfl
theorem dX12_apart_13 : decode cX12_apart 13 = .ok (.isub, 1) := dk_get dk_d03_340 9 rfl
theorem dX12_apart_14 : decode cX12_apart 14 = .ok (.ireturn, 1) := dk_get dk_d03_340 10 rfl
theorem dk_d03_341 : dkc cX12_onesOf [(0, .iconst 0, 1), (1, .istore_n 2, 1), (2, .iload_n 1, 1), (3, .istore_n 3, 1), (4, .iload_n 3, 1), (5, .ifCond .eq 16, 3), (8, .iload_n 2, 1), (9, .iconst 1, 1), (10, .iadd, 1), (11, .istore_n 2, 1), (12, .iload_n 3, 1), (13, .iload_n 3, 1), (14, .iconst 1, 1), (15, .isub, 1), (16, .iand, 1), (17, .istore_n 3, 1), (18, .goto (-14), 3), (21, .iload_n 2, 1), (22, .ireturn, 1)] = true := by decide +kernel
theorem dX12_onesOf_0 : decode cX12_onesOf 0 = .ok (.iconst 0, 1) := dk_get dk_d03_341 0 rfl
theorem dX12_onesOf_1 : decode cX12_onesOf 1 = .ok (.istore_n 2, 1) := dk_get dk_d03_341 1 rfl
theorem dX12_onesOf_2 : decode cX12_onesOf 2 = .ok (.iload_n 1, 1) := dk_get dk_d03_341 2 rfl
theorem dX12_onesOf_3 : decode cX12_onesOf 3 = .ok (.istore_n 3, 1) := dk_get dk_d03_341 3 rfl
theorem dX12_onesOf_4 : decode cX12_onesOf 4 = .ok (.iload_n 3, 1) := dk_get dk_d03_341 4 rfl
theorem dX12_onesOf_5 : decode cX12_onesOf 5 = .ok (.ifCond .eq 16, 3) := dk_get dk_d03_341 5 rfl
theorem dX12_onesOf_8 : decode cX12_onesOf 8 = .ok (.iload_n 2, 1) := dk_get dk_d03_341 6 rfl
theorem dX12_onesOf_9 : decode cX12_onesOf 9 = .ok (.iconst 1, 1) := dk_get dk_d03_341 7 rfl
theorem dX12_onesOf_10 : decode cX12_onesOf 10 = .ok (.iadd, 1) := dk_get dk_d03_341 8 rfl
theorem dX12_onesOf_11 : decode cX12_onesOf 11 = .ok (.istore_n 2, 1) := dk_get dk_d03_341 9 rfl
theorem dX12_onesOf_12 : decode cX12_onesOf 12 = .ok (.iload_n 3, 1) := dk_get dk_d03_341 10 rfl
theorem dX12_onesOf_13 : decode cX12_onesOf 13 = .ok (.iload_n 3, 1) := dk_get dk_d03_341 11 rfl
theorem dX12_onesOf_14 : decode cX12_onesOf 14 = .ok (.iconst 1, 1) := dk_get dk_d03_341 12 rfl
theorem dX12_onesOf_15 : decode cX12_onesOf 15 = .ok (.isub, 1) := dk_get dk_d03_341 13 rfl
theorem dX12_onesOf_16 : decode cX12_onesOf 16 = .ok (.iand, 1) := dk_get dk_d03_341 14 rfl
theorem dX12_onesOf_17 : decode cX12_onesOf 17 = .ok (.istore_n 3, 1) := dk_get dk_d03_341 15 rfl
theorem dX12_onesOf_18 : decode cX12_onesOf 18 = .ok (.goto (-14), 3) := dk_get dk_d03_341 16 rfl
theorem dX12_onesOf_21 : decode cX12_onesOf 21 = .ok (.iload_n 2, 1) := dk_get dk_d03_341 17 rfl
theorem dX12_onesOf_22 : decode cX12_onesOf 22 = .ok (.ireturn, 1) := dk_get dk_d03_341 18 rfl
theorem dk_d03_342 : dkc cX12_has [(0, .iload_n 1, 1), (1, .iload_n 2, 1), (2, .ishr, 1), (3, .iconst 1, 1), (4, .iand, 1), (5, .iconst 1, 1), (6, .if_icmp .ne 7, 3), (9, .iconst 1, 1), (10, .goto 4, 3), (13, .iconst 0, 1), (14, .ireturn, 1)] = true := by decide +kernel
theorem dX12_has_0 : decode cX12_has 0 = .ok (.iload_n 1, 1) := dk_get dk_d03_342 0 rfl
theorem dX12_has_1 : decode cX12_has 1 = .ok (.iload_n 2, 1) := dk_get dk_d03_342 1 rfl
theorem dX12_has_2 : decode cX12_has 2 = .ok (.ishr, 1) := dk_get dk_d03_342 2 rfl
theorem dX12_has_3 : decode cX12_has 3 = .ok (.iconst 1, 1) := dk_get dk_d03_342 3 rfl
theorem dX12_has_4 : decode cX12_has 4 = .ok (.iand, 1) := dk_get dk_d03_342 4 rfl
theorem dX12_has_5 : decode cX12_has 5 = .ok (.iconst 1, 1) := dk_get dk_d03_342 5 rfl
theorem dX12_has_6 : decode cX12_has 6 = .ok (.if_icmp .ne 7, 3) := dk_get dk_d03_342 6 rfl
theorem dX12_has_9 : decode cX12_has 9 = .ok (.iconst 1, 1) := dk_get dk_d03_342 7 rfl
theorem dX12_has_10 : decode cX12_has 10 = .ok (.goto 4, 3) := dk_get dk_d03_342 8 rfl
theorem dX12_has_13 : decode cX12_has 13 = .ok (.iconst 0, 1) := dk_get dk_d03_342 9 rfl
theorem dX12_has_14 : decode cX12_has 14 = .ok (.ireturn, 1) := dk_get dk_d03_342 10 rfl
theorem dk_d03_343 : dkc cX12_keepsAhead [(0, .aload_n 0, 1), (1, .getfield 143, 3), (4, .bipush 6, 2), (6, .if_icmp .ne 49, 3), (9, .aload_n 0, 1), (10, .aload_n 0, 1), (11, .getfield 143, 3), (14, .iconst 1, 1), (15, .isub, 1), (16, .putfield 143, 3), (19, .iconst 0, 1), (20, .istore_n 1, 1), (21, .iload_n 1, 1), (22, .sipush 499, 3), (25, .aload_n 0, 1), (26, .getfield 143, 3), (29, .imul, 1), (30, .if_icmp .ge 25, 3), (33, .aload_n 0, 1), (34, .getfield 13, 3), (37, .iload_n 1, 1), (38, .aload_n 0, 1), (39, .getfield 13, 3), (42, .iload_n 1, 1), (43, .sipush 499, 3)] = true := by decide +kernel
theorem dX12_keepsAhead_0 : decode cX12_keepsAhead 0 = .ok (.aload_n 0, 1) := dk_get dk_d03_343 0 rfl
theorem dX12_keepsAhead_1 : decode cX12_keepsAhead 1 = .ok (.getfield 143, 3) := dk_get dk_d03_343 1 rfl
theorem dX12_keepsAhead_4 : decode cX12_keepsAhead 4 = .ok (.bipush 6, 2) := dk_get dk_d03_343 2 rfl
theorem dX12_keepsAhead_6 : decode cX12_keepsAhead 6 = .ok (.if_icmp .ne 49, 3) := dk_get dk_d03_343 3 rfl
theorem dX12_keepsAhead_9 : decode cX12_keepsAhead 9 = .ok (.aload_n 0, 1) := dk_get dk_d03_343 4 rfl
theorem dX12_keepsAhead_10 : decode cX12_keepsAhead 10 = .ok (.aload_n 0, 1) := dk_get dk_d03_343 5 rfl
theorem dX12_keepsAhead_11 : decode cX12_keepsAhead 11 = .ok (.getfield 143, 3) := dk_get dk_d03_343 6 rfl
theorem dX12_keepsAhead_14 : decode cX12_keepsAhead 14 = .ok (.iconst 1, 1) := dk_get dk_d03_343 7 rfl
theorem dX12_keepsAhead_15 : decode cX12_keepsAhead 15 = .ok (.isub, 1) := dk_get dk_d03_343 8 rfl
theorem dX12_keepsAhead_16 : decode cX12_keepsAhead 16 = .ok (.putfield 143, 3) := dk_get dk_d03_343 9 rfl
theorem dX12_keepsAhead_19 : decode cX12_keepsAhead 19 = .ok (.iconst 0, 1) := dk_get dk_d03_343 10 rfl
theorem dX12_keepsAhead_20 : decode cX12_keepsAhead 20 = .ok (.istore_n 1, 1) := dk_get dk_d03_343 11 rfl
theorem dX12_keepsAhead_21 : decode cX12_keepsAhead 21 = .ok (.iload_n 1, 1) := dk_get dk_d03_343 12 rfl
theorem dX12_keepsAhead_22 : decode cX12_keepsAhead 22 = .ok (.sipush 499, 3) := dk_get dk_d03_343 13 rfl
theorem dX12_keepsAhead_25 : decode cX12_keepsAhead 25 = .ok (.aload_n 0, 1) := dk_get dk_d03_343 14 rfl
theorem dX12_keepsAhead_26 : decode cX12_keepsAhead 26 = .ok (.getfield 143, 3) := dk_get dk_d03_343 15 rfl
theorem dX12_keepsAhead_29 : decode cX12_keepsAhead 29 = .ok (.imul, 1) := dk_get dk_d03_343 16 rfl
theorem dX12_keepsAhead_30 : decode cX12_keepsAhead 30 = .ok (.if_icmp .ge 25, 3) := dk_get dk_d03_343 17 rfl
theorem dX12_keepsAhead_33 : decode cX12_keepsAhead 33 = .ok (.aload_n 0, 1) := dk_get dk_d03_343 18 rfl
theorem dX12_keepsAhead_34 : decode cX12_keepsAhead 34 = .ok (.getfield 13, 3) := dk_get dk_d03_343 19 rfl
theorem dX12_keepsAhead_37 : decode cX12_keepsAhead 37 = .ok (.iload_n 1, 1) := dk_get dk_d03_343 20 rfl
theorem dX12_keepsAhead_38 : decode cX12_keepsAhead 38 = .ok (.aload_n 0, 1) := dk_get dk_d03_343 21 rfl
theorem dX12_keepsAhead_39 : decode cX12_keepsAhead 39 = .ok (.getfield 13, 3) := dk_get dk_d03_343 22 rfl
theorem dX12_keepsAhead_42 : decode cX12_keepsAhead 42 = .ok (.iload_n 1, 1) := dk_get dk_d03_343 23 rfl
theorem dX12_keepsAhead_43 : decode cX12_keepsAhead 43 = .ok (.sipush 499, 3) := dk_get dk_d03_343 24 rfl
theorem dk_d03_344 : dkc cX12_keepsAhead [(46, .iadd, 1), (47, .iaload, 1), (48, .iastore, 1), (49, .iinc 1 1, 3), (52, .goto (-31), 3), (55, .iconst 0, 1), (56, .istore_n 1, 1), (57, .iload_n 1, 1), (58, .sipush 499, 3), (61, .if_icmp .ge 30, 3), (64, .aload_n 0, 1), (65, .getfield 13, 3), (68, .sipush 499, 3), (71, .aload_n 0, 1), (72, .getfield 143, 3), (75, .imul, 1), (76, .iload_n 1, 1), (77, .iadd, 1), (78, .aload_n 0, 1), (79, .getfield 7, 3), (82, .iload_n 1, 1), (83, .iaload, 1), (84, .iastore, 1), (85, .iinc 1 1, 3), (88, .goto (-31), 3)] = true := by decide +kernel
theorem dX12_keepsAhead_46 : decode cX12_keepsAhead 46 = .ok (.iadd, 1) := dk_get dk_d03_344 0 rfl
theorem dX12_keepsAhead_47 : decode cX12_keepsAhead 47 = .ok (.iaload, 1) := dk_get dk_d03_344 1 rfl
theorem dX12_keepsAhead_48 : decode cX12_keepsAhead 48 = .ok (.iastore, 1) := dk_get dk_d03_344 2 rfl
theorem dX12_keepsAhead_49 : decode cX12_keepsAhead 49 = .ok (.iinc 1 1, 3) := dk_get dk_d03_344 3 rfl
theorem dX12_keepsAhead_52 : decode cX12_keepsAhead 52 = .ok (.goto (-31), 3) := dk_get dk_d03_344 4 rfl
theorem dX12_keepsAhead_55 : decode cX12_keepsAhead 55 = .ok (.iconst 0, 1) := dk_get dk_d03_344 5 rfl
theorem dX12_keepsAhead_56 : decode cX12_keepsAhead 56 = .ok (.istore_n 1, 1) := dk_get dk_d03_344 6 rfl
theorem dX12_keepsAhead_57 : decode cX12_keepsAhead 57 = .ok (.iload_n 1, 1) := dk_get dk_d03_344 7 rfl
theorem dX12_keepsAhead_58 : decode cX12_keepsAhead 58 = .ok (.sipush 499, 3) := dk_get dk_d03_344 8 rfl
theorem dX12_keepsAhead_61 : decode cX12_keepsAhead 61 = .ok (.if_icmp .ge 30, 3) := dk_get dk_d03_344 9 rfl
theorem dX12_keepsAhead_64 : decode cX12_keepsAhead 64 = .ok (.aload_n 0, 1) := dk_get dk_d03_344 10 rfl
theorem dX12_keepsAhead_65 : decode cX12_keepsAhead 65 = .ok (.getfield 13, 3) := dk_get dk_d03_344 11 rfl
theorem dX12_keepsAhead_68 : decode cX12_keepsAhead 68 = .ok (.sipush 499, 3) := dk_get dk_d03_344 12 rfl
theorem dX12_keepsAhead_71 : decode cX12_keepsAhead 71 = .ok (.aload_n 0, 1) := dk_get dk_d03_344 13 rfl
theorem dX12_keepsAhead_72 : decode cX12_keepsAhead 72 = .ok (.getfield 143, 3) := dk_get dk_d03_344 14 rfl
theorem dX12_keepsAhead_75 : decode cX12_keepsAhead 75 = .ok (.imul, 1) := dk_get dk_d03_344 15 rfl
theorem dX12_keepsAhead_76 : decode cX12_keepsAhead 76 = .ok (.iload_n 1, 1) := dk_get dk_d03_344 16 rfl
theorem dX12_keepsAhead_77 : decode cX12_keepsAhead 77 = .ok (.iadd, 1) := dk_get dk_d03_344 17 rfl
theorem dX12_keepsAhead_78 : decode cX12_keepsAhead 78 = .ok (.aload_n 0, 1) := dk_get dk_d03_344 18 rfl
theorem dX12_keepsAhead_79 : decode cX12_keepsAhead 79 = .ok (.getfield 7, 3) := dk_get dk_d03_344 19 rfl
theorem dX12_keepsAhead_82 : decode cX12_keepsAhead 82 = .ok (.iload_n 1, 1) := dk_get dk_d03_344 20 rfl
theorem dX12_keepsAhead_83 : decode cX12_keepsAhead 83 = .ok (.iaload, 1) := dk_get dk_d03_344 21 rfl
theorem dX12_keepsAhead_84 : decode cX12_keepsAhead 84 = .ok (.iastore, 1) := dk_get dk_d03_344 22 rfl
theorem dX12_keepsAhead_85 : decode cX12_keepsAhead 85 = .ok (.iinc 1 1, 3) := dk_get dk_d03_344 23 rfl
theorem dX12_keepsAhead_88 : decode cX12_keepsAhead 88 = .ok (.goto (-31), 3) := dk_get dk_d03_344 24 rfl
theorem dk_d03_345 : dkc cX12_keepsAhead [(91, .aload_n 0, 1), (92, .aload_n 0, 1), (93, .getfield 143, 3), (96, .iconst 1, 1), (97, .iadd, 1), (98, .putfield 143, 3), (101, .return_, 1)] = true := by decide +kernel
theorem dX12_keepsAhead_91 : decode cX12_keepsAhead 91 = .ok (.aload_n 0, 1) := dk_get dk_d03_345 0 rfl
theorem dX12_keepsAhead_92 : decode cX12_keepsAhead 92 = .ok (.aload_n 0, 1) := dk_get dk_d03_345 1 rfl
theorem dX12_keepsAhead_93 : decode cX12_keepsAhead 93 = .ok (.getfield 143, 3) := dk_get dk_d03_345 2 rfl
theorem dX12_keepsAhead_96 : decode cX12_keepsAhead 96 = .ok (.iconst 1, 1) := dk_get dk_d03_345 3 rfl
theorem dX12_keepsAhead_97 : decode cX12_keepsAhead 97 = .ok (.iadd, 1) := dk_get dk_d03_345 4 rfl
theorem dX12_keepsAhead_98 : decode cX12_keepsAhead 98 = .ok (.putfield 143, 3) := dk_get dk_d03_345 5 rfl
theorem dX12_keepsAhead_101 : decode cX12_keepsAhead 101 = .ok (.return_, 1) := dk_get dk_d03_345 6 rfl
theorem dk_d03_346 : dkc cX12_undo [(0, .aload_n 0, 1), (1, .iconst 0, 1), (2, .putfield 140, 3), (5, .aload_n 0, 1), (6, .getfield 143, 3), (9, .ifCond .ne 5, 3), (12, .iconst 0, 1), (13, .ireturn, 1), (14, .aload_n 0, 1), (15, .aload_n 0, 1), (16, .getfield 143, 3), (19, .iconst 1, 1), (20, .isub, 1), (21, .putfield 143, 3), (24, .iconst 0, 1), (25, .istore_n 1, 1), (26, .iload_n 1, 1), (27, .sipush 499, 3), (30, .if_icmp .ge 30, 3), (33, .aload_n 0, 1), (34, .getfield 7, 3), (37, .iload_n 1, 1), (38, .aload_n 0, 1), (39, .getfield 13, 3), (42, .sipush 499, 3)] = true := by decide +kernel
theorem dX12_undo_0 : decode cX12_undo 0 = .ok (.aload_n 0, 1) := dk_get dk_d03_346 0 rfl
theorem dX12_undo_1 : decode cX12_undo 1 = .ok (.iconst 0, 1) := dk_get dk_d03_346 1 rfl
theorem dX12_undo_2 : decode cX12_undo 2 = .ok (.putfield 140, 3) := dk_get dk_d03_346 2 rfl
theorem dX12_undo_5 : decode cX12_undo 5 = .ok (.aload_n 0, 1) := dk_get dk_d03_346 3 rfl
theorem dX12_undo_6 : decode cX12_undo 6 = .ok (.getfield 143, 3) := dk_get dk_d03_346 4 rfl
theorem dX12_undo_9 : decode cX12_undo 9 = .ok (.ifCond .ne 5, 3) := dk_get dk_d03_346 5 rfl
theorem dX12_undo_12 : decode cX12_undo 12 = .ok (.iconst 0, 1) := dk_get dk_d03_346 6 rfl
theorem dX12_undo_13 : decode cX12_undo 13 = .ok (.ireturn, 1) := dk_get dk_d03_346 7 rfl
theorem dX12_undo_14 : decode cX12_undo 14 = .ok (.aload_n 0, 1) := dk_get dk_d03_346 8 rfl
theorem dX12_undo_15 : decode cX12_undo 15 = .ok (.aload_n 0, 1) := dk_get dk_d03_346 9 rfl
theorem dX12_undo_16 : decode cX12_undo 16 = .ok (.getfield 143, 3) := dk_get dk_d03_346 10 rfl
theorem dX12_undo_19 : decode cX12_undo 19 = .ok (.iconst 1, 1) := dk_get dk_d03_346 11 rfl
theorem dX12_undo_20 : decode cX12_undo 20 = .ok (.isub, 1) := dk_get dk_d03_346 12 rfl
theorem dX12_undo_21 : decode cX12_undo 21 = .ok (.putfield 143, 3) := dk_get dk_d03_346 13 rfl
theorem dX12_undo_24 : decode cX12_undo 24 = .ok (.iconst 0, 1) := dk_get dk_d03_346 14 rfl
theorem dX12_undo_25 : decode cX12_undo 25 = .ok (.istore_n 1, 1) := dk_get dk_d03_346 15 rfl
theorem dX12_undo_26 : decode cX12_undo 26 = .ok (.iload_n 1, 1) := dk_get dk_d03_346 16 rfl
theorem dX12_undo_27 : decode cX12_undo 27 = .ok (.sipush 499, 3) := dk_get dk_d03_346 17 rfl
theorem dX12_undo_30 : decode cX12_undo 30 = .ok (.if_icmp .ge 30, 3) := dk_get dk_d03_346 18 rfl
theorem dX12_undo_33 : decode cX12_undo 33 = .ok (.aload_n 0, 1) := dk_get dk_d03_346 19 rfl
theorem dX12_undo_34 : decode cX12_undo 34 = .ok (.getfield 7, 3) := dk_get dk_d03_346 20 rfl
theorem dX12_undo_37 : decode cX12_undo 37 = .ok (.iload_n 1, 1) := dk_get dk_d03_346 21 rfl
theorem dX12_undo_38 : decode cX12_undo 38 = .ok (.aload_n 0, 1) := dk_get dk_d03_346 22 rfl
theorem dX12_undo_39 : decode cX12_undo 39 = .ok (.getfield 13, 3) := dk_get dk_d03_346 23 rfl
theorem dX12_undo_42 : decode cX12_undo 42 = .ok (.sipush 499, 3) := dk_get dk_d03_346 24 rfl
theorem dk_d03_347 : dkc cX12_undo [(45, .aload_n 0, 1), (46, .getfield 143, 3), (49, .imul, 1), (50, .iload_n 1, 1), (51, .iadd, 1), (52, .iaload, 1), (53, .iastore, 1), (54, .iinc 1 1, 3), (57, .goto (-31), 3), (60, .iconst 1, 1), (61, .ireturn, 1)] = true := by decide +kernel
theorem dX12_undo_45 : decode cX12_undo 45 = .ok (.aload_n 0, 1) := dk_get dk_d03_347 0 rfl
theorem dX12_undo_46 : decode cX12_undo 46 = .ok (.getfield 143, 3) := dk_get dk_d03_347 1 rfl
theorem dX12_undo_49 : decode cX12_undo 49 = .ok (.imul, 1) := dk_get dk_d03_347 2 rfl
theorem dX12_undo_50 : decode cX12_undo 50 = .ok (.iload_n 1, 1) := dk_get dk_d03_347 3 rfl
theorem dX12_undo_51 : decode cX12_undo 51 = .ok (.iadd, 1) := dk_get dk_d03_347 4 rfl
theorem dX12_undo_52 : decode cX12_undo 52 = .ok (.iaload, 1) := dk_get dk_d03_347 5 rfl
theorem dX12_undo_53 : decode cX12_undo 53 = .ok (.iastore, 1) := dk_get dk_d03_347 6 rfl
theorem dX12_undo_54 : decode cX12_undo 54 = .ok (.iinc 1 1, 3) := dk_get dk_d03_347 7 rfl
theorem dX12_undo_57 : decode cX12_undo 57 = .ok (.goto (-31), 3) := dk_get dk_d03_347 8 rfl
theorem dX12_undo_60 : decode cX12_undo 60 = .ok (.iconst 1, 1) := dk_get dk_d03_347 9 rfl
theorem dX12_undo_61 : decode cX12_undo 61 = .ok (.ireturn, 1) := dk_get dk_d03_347 10 rfl
theorem dk_d03_348 : dkc cX12_thinks [(0, .iconst 0, 1), (1, .istore_n 1, 1), (2, .iload_n 1, 1), (3, .sipush 499, 3), (6, .if_icmp .ge 21, 3), (9, .aload_n 0, 1), (10, .getfield 16, 3), (13, .iload_n 1, 1), (14, .aload_n 0, 1), (15, .getfield 7, 3), (18, .iload_n 1, 1), (19, .iaload, 1), (20, .iastore, 1), (21, .iinc 1 1, 3), (24, .goto (-22), 3), (27, .aload_n 0, 1), (28, .iconst 1, 1), (29, .putfield 146, 3), (32, .return_, 1)] = true := by decide +kernel
theorem dX12_thinks_0 : decode cX12_thinks 0 = .ok (.iconst 0, 1) := dk_get dk_d03_348 0 rfl
theorem dX12_thinks_1 : decode cX12_thinks 1 = .ok (.istore_n 1, 1) := dk_get dk_d03_348 1 rfl
theorem dX12_thinks_2 : decode cX12_thinks 2 = .ok (.iload_n 1, 1) := dk_get dk_d03_348 2 rfl
theorem dX12_thinks_3 : decode cX12_thinks 3 = .ok (.sipush 499, 3) := dk_get dk_d03_348 3 rfl
theorem dX12_thinks_6 : decode cX12_thinks 6 = .ok (.if_icmp .ge 21, 3) := dk_get dk_d03_348 4 rfl
theorem dX12_thinks_9 : decode cX12_thinks 9 = .ok (.aload_n 0, 1) := dk_get dk_d03_348 5 rfl
theorem dX12_thinks_10 : decode cX12_thinks 10 = .ok (.getfield 16, 3) := dk_get dk_d03_348 6 rfl
theorem dX12_thinks_13 : decode cX12_thinks 13 = .ok (.iload_n 1, 1) := dk_get dk_d03_348 7 rfl
theorem dX12_thinks_14 : decode cX12_thinks 14 = .ok (.aload_n 0, 1) := dk_get dk_d03_348 8 rfl
theorem dX12_thinks_15 : decode cX12_thinks 15 = .ok (.getfield 7, 3) := dk_get dk_d03_348 9 rfl
theorem dX12_thinks_18 : decode cX12_thinks 18 = .ok (.iload_n 1, 1) := dk_get dk_d03_348 10 rfl
theorem dX12_thinks_19 : decode cX12_thinks 19 = .ok (.iaload, 1) := dk_get dk_d03_348 11 rfl
theorem dX12_thinks_20 : decode cX12_thinks 20 = .ok (.iastore, 1) := dk_get dk_d03_348 12 rfl
theorem dX12_thinks_21 : decode cX12_thinks 21 = .ok (.iinc 1 1, 3) := dk_get dk_d03_348 13 rfl
theorem dX12_thinks_24 : decode cX12_thinks 24 = .ok (.goto (-22), 3) := dk_get dk_d03_348 14 rfl
theorem dX12_thinks_27 : decode cX12_thinks 27 = .ok (.aload_n 0, 1) := dk_get dk_d03_348 15 rfl
theorem dX12_thinks_28 : decode cX12_thinks 28 = .ok (.iconst 1, 1) := dk_get dk_d03_348 16 rfl
theorem dX12_thinks_29 : decode cX12_thinks 29 = .ok (.putfield 146, 3) := dk_get dk_d03_348 17 rfl
theorem dX12_thinks_32 : decode cX12_thinks 32 = .ok (.return_, 1) := dk_get dk_d03_348 18 rfl
theorem dk_d03_349 : dkc cX12_endsThought [(0, .iconst 0, 1), (1, .istore_n 1, 1), (2, .iload_n 1, 1), (3, .sipush 499, 3), (6, .if_icmp .ge 21, 3), (9, .aload_n 0, 1), (10, .getfield 7, 3), (13, .iload_n 1, 1), (14, .aload_n 0, 1), (15, .getfield 16, 3), (18, .iload_n 1, 1), (19, .iaload, 1), (20, .iastore, 1), (21, .iinc 1 1, 3), (24, .goto (-22), 3), (27, .aload_n 0, 1), (28, .iconst 0, 1), (29, .putfield 146, 3), (32, .return_, 1)] = true := by decide +kernel
theorem dX12_endsThought_0 : decode cX12_endsThought 0 = .ok (.iconst 0, 1) := dk_get dk_d03_349 0 rfl
theorem dX12_endsThought_1 : decode cX12_endsThought 1 = .ok (.istore_n 1, 1) := dk_get dk_d03_349 1 rfl
theorem dX12_endsThought_2 : decode cX12_endsThought 2 = .ok (.iload_n 1, 1) := dk_get dk_d03_349 2 rfl
theorem dX12_endsThought_3 : decode cX12_endsThought 3 = .ok (.sipush 499, 3) := dk_get dk_d03_349 3 rfl
theorem dX12_endsThought_6 : decode cX12_endsThought 6 = .ok (.if_icmp .ge 21, 3) := dk_get dk_d03_349 4 rfl
theorem dX12_endsThought_9 : decode cX12_endsThought 9 = .ok (.aload_n 0, 1) := dk_get dk_d03_349 5 rfl
theorem dX12_endsThought_10 : decode cX12_endsThought 10 = .ok (.getfield 7, 3) := dk_get dk_d03_349 6 rfl
theorem dX12_endsThought_13 : decode cX12_endsThought 13 = .ok (.iload_n 1, 1) := dk_get dk_d03_349 7 rfl
theorem dX12_endsThought_14 : decode cX12_endsThought 14 = .ok (.aload_n 0, 1) := dk_get dk_d03_349 8 rfl
theorem dX12_endsThought_15 : decode cX12_endsThought 15 = .ok (.getfield 16, 3) := dk_get dk_d03_349 9 rfl
theorem dX12_endsThought_18 : decode cX12_endsThought 18 = .ok (.iload_n 1, 1) := dk_get dk_d03_349 10 rfl
theorem dX12_endsThought_19 : decode cX12_endsThought 19 = .ok (.iaload, 1) := dk_get dk_d03_349 11 rfl
theorem dX12_endsThought_20 : decode cX12_endsThought 20 = .ok (.iastore, 1) := dk_get dk_d03_349 12 rfl
theorem dX12_endsThought_21 : decode cX12_endsThought 21 = .ok (.iinc 1 1, 3) := dk_get dk_d03_349 13 rfl
theorem dX12_endsThought_24 : decode cX12_endsThought 24 = .ok (.goto (-22), 3) := dk_get dk_d03_349 14 rfl
theorem dX12_endsThought_27 : decode cX12_endsThought 27 = .ok (.aload_n 0, 1) := dk_get dk_d03_349 15 rfl
theorem dX12_endsThought_28 : decode cX12_endsThought 28 = .ok (.iconst 0, 1) := dk_get dk_d03_349 16 rfl
theorem dX12_endsThought_29 : decode cX12_endsThought 29 = .ok (.putfield 146, 3) := dk_get dk_d03_349 17 rfl
theorem dX12_endsThought_32 : decode cX12_endsThought 32 = .ok (.return_, 1) := dk_get dk_d03_349 18 rfl
theorem dk_d03_350 : dkc cX12_state [(0, .aload_n 0, 1), (1, .iconst 0, 1), (2, .putfield 140, 3), (5, .aload_n 0, 1), (6, .getfield 7, 3), (9, .iconst 2, 1), (10, .iaload, 1), (11, .istore_n 2, 1), (12, .aload_n 0, 1), (13, .getfield 7, 3), (16, .iconst 2, 1), (17, .iload_n 1, 1), (18, .iastore, 1), (19, .aload_n 0, 1), (20, .iconst 0, 1), (21, .putfield 143, 3), (24, .iload_n 2, 1), (25, .ireturn, 1)] = true := by decide +kernel
theorem dX12_state_0 : decode cX12_state 0 = .ok (.aload_n 0, 1) := dk_get dk_d03_350 0 rfl
theorem dX12_state_1 : decode cX12_state 1 = .ok (.iconst 0, 1) := dk_get dk_d03_350 1 rfl
theorem dX12_state_2 : decode cX12_state 2 = .ok (.putfield 140, 3) := dk_get dk_d03_350 2 rfl
theorem dX12_state_5 : decode cX12_state 5 = .ok (.aload_n 0, 1) := dk_get dk_d03_350 3 rfl
theorem dX12_state_6 : decode cX12_state 6 = .ok (.getfield 7, 3) := dk_get dk_d03_350 4 rfl
theorem dX12_state_9 : decode cX12_state 9 = .ok (.iconst 2, 1) := dk_get dk_d03_350 5 rfl
theorem dX12_state_10 : decode cX12_state 10 = .ok (.iaload, 1) := dk_get dk_d03_350 6 rfl
theorem dX12_state_11 : decode cX12_state 11 = .ok (.istore_n 2, 1) := dk_get dk_d03_350 7 rfl
theorem dX12_state_12 : decode cX12_state 12 = .ok (.aload_n 0, 1) := dk_get dk_d03_350 8 rfl
theorem dX12_state_13 : decode cX12_state 13 = .ok (.getfield 7, 3) := dk_get dk_d03_350 9 rfl
theorem dX12_state_16 : decode cX12_state 16 = .ok (.iconst 2, 1) := dk_get dk_d03_350 10 rfl
theorem dX12_state_17 : decode cX12_state 17 = .ok (.iload_n 1, 1) := dk_get dk_d03_350 11 rfl
theorem dX12_state_18 : decode cX12_state 18 = .ok (.iastore, 1) := dk_get dk_d03_350 12 rfl
theorem dX12_state_19 : decode cX12_state 19 = .ok (.aload_n 0, 1) := dk_get dk_d03_350 13 rfl
theorem dX12_state_20 : decode cX12_state 20 = .ok (.iconst 0, 1) := dk_get dk_d03_350 14 rfl
theorem dX12_state_21 : decode cX12_state 21 = .ok (.putfield 143, 3) := dk_get dk_d03_350 15 rfl
theorem dX12_state_24 : decode cX12_state 24 = .ok (.iload_n 2, 1) := dk_get dk_d03_350 16 rfl
theorem dX12_state_25 : decode cX12_state 25 = .ok (.ireturn, 1) := dk_get dk_d03_350 17 rfl
theorem dk_d03_351 : dkc cX12_draw [(0, .aload_n 0, 1), (1, .getfield 7, 3), (4, .iconst 2, 1), (5, .ldc 150, 2), (7, .aload_n 0, 1), (8, .getfield 7, 3), (11, .iconst 2, 1), (12, .iaload, 1), (13, .imul, 1), (14, .ldc 151, 2), (16, .iadd, 1), (17, .iastore, 1), (18, .aload_n 0, 1), (19, .getfield 7, 3), (22, .iconst 2, 1), (23, .iaload, 1), (24, .bipush 8, 2), (26, .iushr, 1), (27, .iload_n 1, 1), (28, .irem, 1), (29, .ireturn, 1)] = true := by decide +kernel
theorem dX12_draw_0 : decode cX12_draw 0 = .ok (.aload_n 0, 1) := dk_get dk_d03_351 0 rfl
theorem dX12_draw_1 : decode cX12_draw 1 = .ok (.getfield 7, 3) := dk_get dk_d03_351 1 rfl
theorem dX12_draw_4 : decode cX12_draw 4 = .ok (.iconst 2, 1) := dk_get dk_d03_351 2 rfl
theorem dX12_draw_5 : decode cX12_draw 5 = .ok (.ldc 150, 2) := dk_get dk_d03_351 3 rfl
theorem dX12_draw_7 : decode cX12_draw 7 = .ok (.aload_n 0, 1) := dk_get dk_d03_351 4 rfl
theorem dX12_draw_8 : decode cX12_draw 8 = .ok (.getfield 7, 3) := dk_get dk_d03_351 5 rfl
theorem dX12_draw_11 : decode cX12_draw 11 = .ok (.iconst 2, 1) := dk_get dk_d03_351 6 rfl
theorem dX12_draw_12 : decode cX12_draw 12 = .ok (.iaload, 1) := dk_get dk_d03_351 7 rfl
theorem dX12_draw_13 : decode cX12_draw 13 = .ok (.imul, 1) := dk_get dk_d03_351 8 rfl
theorem dX12_draw_14 : decode cX12_draw 14 = .ok (.ldc 151, 2) := dk_get dk_d03_351 9 rfl
theorem dX12_draw_16 : decode cX12_draw 16 = .ok (.iadd, 1) := dk_get dk_d03_351 10 rfl
theorem dX12_draw_17 : decode cX12_draw 17 = .ok (.iastore, 1) := dk_get dk_d03_351 11 rfl
theorem dX12_draw_18 : decode cX12_draw 18 = .ok (.aload_n 0, 1) := dk_get dk_d03_351 12 rfl
theorem dX12_draw_19 : decode cX12_draw 19 = .ok (.getfield 7, 3) := dk_get dk_d03_351 13 rfl
theorem dX12_draw_22 : decode cX12_draw 22 = .ok (.iconst 2, 1) := dk_get dk_d03_351 14 rfl
theorem dX12_draw_23 : decode cX12_draw 23 = .ok (.iaload, 1) := dk_get dk_d03_351 15 rfl
theorem dX12_draw_24 : decode cX12_draw 24 = .ok (.bipush 8, 2) := dk_get dk_d03_351 16 rfl
theorem dX12_draw_26 : decode cX12_draw 26 = .ok (.iushr, 1) := dk_get dk_d03_351 17 rfl
theorem dX12_draw_27 : decode cX12_draw 27 = .ok (.iload_n 1, 1) := dk_get dk_d03_351 18 rfl
theorem dX12_draw_28 : decode cX12_draw 28 = .ok (.irem, 1) := dk_get dk_d03_351 19 rfl
theorem dX12_draw_29 : decode cX12_draw 29 = .ok (.ireturn, 1) := dk_get dk_d03_351 20 rfl
theorem dk_d03_352 : dkc cX12_isVoter [(0, .iload_n 1, 1), (1, .ifCond .lt 15, 3), (4, .iload_n 1, 1), (5, .aload_n 0, 1), (6, .getfield 152, 3), (9, .if_icmp .ge 7, 3), (12, .iconst 1, 1), (13, .goto 4, 3), (16, .iconst 0, 1), (17, .ireturn, 1)] = true := by decide +kernel
theorem dX12_isVoter_0 : decode cX12_isVoter 0 = .ok (.iload_n 1, 1) := dk_get dk_d03_352 0 rfl
theorem dX12_isVoter_1 : decode cX12_isVoter 1 = .ok (.ifCond .lt 15, 3) := dk_get dk_d03_352 1 rfl
theorem dX12_isVoter_4 : decode cX12_isVoter 4 = .ok (.iload_n 1, 1) := dk_get dk_d03_352 2 rfl
theorem dX12_isVoter_5 : decode cX12_isVoter 5 = .ok (.aload_n 0, 1) := dk_get dk_d03_352 3 rfl
theorem dX12_isVoter_6 : decode cX12_isVoter 6 = .ok (.getfield 152, 3) := dk_get dk_d03_352 4 rfl
theorem dX12_isVoter_9 : decode cX12_isVoter 9 = .ok (.if_icmp .ge 7, 3) := dk_get dk_d03_352 5 rfl
theorem dX12_isVoter_12 : decode cX12_isVoter 12 = .ok (.iconst 1, 1) := dk_get dk_d03_352 6 rfl
theorem dX12_isVoter_13 : decode cX12_isVoter 13 = .ok (.goto 4, 3) := dk_get dk_d03_352 7 rfl
theorem dX12_isVoter_16 : decode cX12_isVoter 16 = .ok (.iconst 0, 1) := dk_get dk_d03_352 8 rfl
theorem dX12_isVoter_17 : decode cX12_isVoter 17 = .ok (.ireturn, 1) := dk_get dk_d03_352 9 rfl
theorem dk_d03_353 : dkc cX12_voter [(0, .aload_n 0, 1), (1, .iconst 0, 1), (2, .putfield 140, 3), (5, .aload_n 0, 1), (6, .iload_n 1, 1), (7, .iconst 0, 1), (8, .sipush 255, 3), (11, .invokevirtual 155, 3), (14, .ifCond .eq 45, 3), (17, .aload_n 0, 1), (18, .iload_n 2, 1), (19, .iconst (-1), 1), (20, .iconst 1, 1), (21, .invokevirtual 155, 3), (24, .ifCond .eq 35, 3), (27, .aload_n 0, 1), (28, .iload_n 3, 1), (29, .iconst 0, 1), (30, .bipush 11, 2), (32, .invokevirtual 155, 3), (35, .ifCond .eq 24, 3), (38, .aload_n 0, 1), (39, .iload 4, 2), (41, .iconst 0, 1), (42, .bipush 9, 2)] = true := by decide +kernel
theorem dX12_voter_0 : decode cX12_voter 0 = .ok (.aload_n 0, 1) := dk_get dk_d03_353 0 rfl
theorem dX12_voter_1 : decode cX12_voter 1 = .ok (.iconst 0, 1) := dk_get dk_d03_353 1 rfl
theorem dX12_voter_2 : decode cX12_voter 2 = .ok (.putfield 140, 3) := dk_get dk_d03_353 2 rfl
theorem dX12_voter_5 : decode cX12_voter 5 = .ok (.aload_n 0, 1) := dk_get dk_d03_353 3 rfl
theorem dX12_voter_6 : decode cX12_voter 6 = .ok (.iload_n 1, 1) := dk_get dk_d03_353 4 rfl
theorem dX12_voter_7 : decode cX12_voter 7 = .ok (.iconst 0, 1) := dk_get dk_d03_353 5 rfl
theorem dX12_voter_8 : decode cX12_voter 8 = .ok (.sipush 255, 3) := dk_get dk_d03_353 6 rfl
theorem dX12_voter_11 : decode cX12_voter 11 = .ok (.invokevirtual 155, 3) := dk_get dk_d03_353 7 rfl
theorem dX12_voter_14 : decode cX12_voter 14 = .ok (.ifCond .eq 45, 3) := dk_get dk_d03_353 8 rfl
theorem dX12_voter_17 : decode cX12_voter 17 = .ok (.aload_n 0, 1) := dk_get dk_d03_353 9 rfl
theorem dX12_voter_18 : decode cX12_voter 18 = .ok (.iload_n 2, 1) := dk_get dk_d03_353 10 rfl
theorem dX12_voter_19 : decode cX12_voter 19 = .ok (.iconst (-1), 1) := dk_get dk_d03_353 11 rfl
theorem dX12_voter_20 : decode cX12_voter 20 = .ok (.iconst 1, 1) := dk_get dk_d03_353 12 rfl
theorem dX12_voter_21 : decode cX12_voter 21 = .ok (.invokevirtual 155, 3) := dk_get dk_d03_353 13 rfl
theorem dX12_voter_24 : decode cX12_voter 24 = .ok (.ifCond .eq 35, 3) := dk_get dk_d03_353 14 rfl
theorem dX12_voter_27 : decode cX12_voter 27 = .ok (.aload_n 0, 1) := dk_get dk_d03_353 15 rfl
theorem dX12_voter_28 : decode cX12_voter 28 = .ok (.iload_n 3, 1) := dk_get dk_d03_353 16 rfl
theorem dX12_voter_29 : decode cX12_voter 29 = .ok (.iconst 0, 1) := dk_get dk_d03_353 17 rfl
theorem dX12_voter_30 : decode cX12_voter 30 = .ok (.bipush 11, 2) := dk_get dk_d03_353 18 rfl
theorem dX12_voter_32 : decode cX12_voter 32 = .ok (.invokevirtual 155, 3) := dk_get dk_d03_353 19 rfl
theorem dX12_voter_35 : decode cX12_voter 35 = .ok (.ifCond .eq 24, 3) := dk_get dk_d03_353 20 rfl
theorem dX12_voter_38 : decode cX12_voter 38 = .ok (.aload_n 0, 1) := dk_get dk_d03_353 21 rfl
theorem dX12_voter_39 : decode cX12_voter 39 = .ok (.iload 4, 2) := dk_get dk_d03_353 22 rfl
theorem dX12_voter_41 : decode cX12_voter 41 = .ok (.iconst 0, 1) := dk_get dk_d03_353 23 rfl
theorem dX12_voter_42 : decode cX12_voter 42 = .ok (.bipush 9, 2) := dk_get dk_d03_353 24 rfl
theorem dk_d03_354 : dkc cX12_voter [(44, .invokevirtual 155, 3), (47, .ifCond .eq 12, 3), (50, .aload_n 0, 1), (51, .getfield 152, 3), (54, .bipush 20, 2), (56, .if_icmp .ne 5, 3), (59, .iconst (-1), 1), (60, .ireturn, 1), (61, .aload_n 0, 1), (62, .getfield 19, 3), (65, .aload_n 0, 1), (66, .getfield 152, 3), (69, .iload_n 1, 1), (70, .iastore, 1), (71, .aload_n 0, 1), (72, .getfield 22, 3), (75, .aload_n 0, 1), (76, .getfield 152, 3), (79, .iload_n 3, 1), (80, .iastore, 1), (81, .aload_n 0, 1), (82, .getfield 25, 3), (85, .aload_n 0, 1), (86, .getfield 152, 3), (89, .iload 4, 2)] = true := by decide +kernel
theorem dX12_voter_44 : decode cX12_voter 44 = .ok (.invokevirtual 155, 3) := dk_get dk_d03_354 0 rfl
theorem dX12_voter_47 : decode cX12_voter 47 = .ok (.ifCond .eq 12, 3) := dk_get dk_d03_354 1 rfl
theorem dX12_voter_50 : decode cX12_voter 50 = .ok (.aload_n 0, 1) := dk_get dk_d03_354 2 rfl
theorem dX12_voter_51 : decode cX12_voter 51 = .ok (.getfield 152, 3) := dk_get dk_d03_354 3 rfl
theorem dX12_voter_54 : decode cX12_voter 54 = .ok (.bipush 20, 2) := dk_get dk_d03_354 4 rfl
theorem dX12_voter_56 : decode cX12_voter 56 = .ok (.if_icmp .ne 5, 3) := dk_get dk_d03_354 5 rfl
theorem dX12_voter_59 : decode cX12_voter 59 = .ok (.iconst (-1), 1) := dk_get dk_d03_354 6 rfl
theorem dX12_voter_60 : decode cX12_voter 60 = .ok (.ireturn, 1) := dk_get dk_d03_354 7 rfl
theorem dX12_voter_61 : decode cX12_voter 61 = .ok (.aload_n 0, 1) := dk_get dk_d03_354 8 rfl
theorem dX12_voter_62 : decode cX12_voter 62 = .ok (.getfield 19, 3) := dk_get dk_d03_354 9 rfl
theorem dX12_voter_65 : decode cX12_voter 65 = .ok (.aload_n 0, 1) := dk_get dk_d03_354 10 rfl
theorem dX12_voter_66 : decode cX12_voter 66 = .ok (.getfield 152, 3) := dk_get dk_d03_354 11 rfl
theorem dX12_voter_69 : decode cX12_voter 69 = .ok (.iload_n 1, 1) := dk_get dk_d03_354 12 rfl
theorem dX12_voter_70 : decode cX12_voter 70 = .ok (.iastore, 1) := dk_get dk_d03_354 13 rfl
theorem dX12_voter_71 : decode cX12_voter 71 = .ok (.aload_n 0, 1) := dk_get dk_d03_354 14 rfl
theorem dX12_voter_72 : decode cX12_voter 72 = .ok (.getfield 22, 3) := dk_get dk_d03_354 15 rfl
theorem dX12_voter_75 : decode cX12_voter 75 = .ok (.aload_n 0, 1) := dk_get dk_d03_354 16 rfl
theorem dX12_voter_76 : decode cX12_voter 76 = .ok (.getfield 152, 3) := dk_get dk_d03_354 17 rfl
theorem dX12_voter_79 : decode cX12_voter 79 = .ok (.iload_n 3, 1) := dk_get dk_d03_354 18 rfl
theorem dX12_voter_80 : decode cX12_voter 80 = .ok (.iastore, 1) := dk_get dk_d03_354 19 rfl
theorem dX12_voter_81 : decode cX12_voter 81 = .ok (.aload_n 0, 1) := dk_get dk_d03_354 20 rfl
theorem dX12_voter_82 : decode cX12_voter 82 = .ok (.getfield 25, 3) := dk_get dk_d03_354 21 rfl
theorem dX12_voter_85 : decode cX12_voter 85 = .ok (.aload_n 0, 1) := dk_get dk_d03_354 22 rfl
theorem dX12_voter_86 : decode cX12_voter 86 = .ok (.getfield 152, 3) := dk_get dk_d03_354 23 rfl
theorem dX12_voter_89 : decode cX12_voter 89 = .ok (.iload 4, 2) := dk_get dk_d03_354 24 rfl
theorem dk_d03_355 : dkc cX12_voter [(91, .iastore, 1), (92, .aload_n 0, 1), (93, .getfield 7, 3), (96, .bipush 7, 2), (98, .aload_n 0, 1), (99, .getfield 152, 3), (102, .iadd, 1), (103, .iload_n 2, 1), (104, .iastore, 1), (105, .aload_n 0, 1), (106, .getfield 7, 3), (109, .bipush 27, 2), (111, .aload_n 0, 1), (112, .getfield 152, 3), (115, .iadd, 1), (116, .iconst 0, 1), (117, .iastore, 1), (118, .aload_n 0, 1), (119, .getfield 7, 3), (122, .bipush 47, 2), (124, .aload_n 0, 1), (125, .getfield 152, 3), (128, .iadd, 1), (129, .iconst 0, 1), (130, .iastore, 1)] = true := by decide +kernel
theorem dX12_voter_91 : decode cX12_voter 91 = .ok (.iastore, 1) := dk_get dk_d03_355 0 rfl
theorem dX12_voter_92 : decode cX12_voter 92 = .ok (.aload_n 0, 1) := dk_get dk_d03_355 1 rfl
theorem dX12_voter_93 : decode cX12_voter 93 = .ok (.getfield 7, 3) := dk_get dk_d03_355 2 rfl
theorem dX12_voter_96 : decode cX12_voter 96 = .ok (.bipush 7, 2) := dk_get dk_d03_355 3 rfl
theorem dX12_voter_98 : decode cX12_voter 98 = .ok (.aload_n 0, 1) := dk_get dk_d03_355 4 rfl
theorem dX12_voter_99 : decode cX12_voter 99 = .ok (.getfield 152, 3) := dk_get dk_d03_355 5 rfl
theorem dX12_voter_102 : decode cX12_voter 102 = .ok (.iadd, 1) := dk_get dk_d03_355 6 rfl
theorem dX12_voter_103 : decode cX12_voter 103 = .ok (.iload_n 2, 1) := dk_get dk_d03_355 7 rfl
theorem dX12_voter_104 : decode cX12_voter 104 = .ok (.iastore, 1) := dk_get dk_d03_355 8 rfl
theorem dX12_voter_105 : decode cX12_voter 105 = .ok (.aload_n 0, 1) := dk_get dk_d03_355 9 rfl
theorem dX12_voter_106 : decode cX12_voter 106 = .ok (.getfield 7, 3) := dk_get dk_d03_355 10 rfl
theorem dX12_voter_109 : decode cX12_voter 109 = .ok (.bipush 27, 2) := dk_get dk_d03_355 11 rfl
theorem dX12_voter_111 : decode cX12_voter 111 = .ok (.aload_n 0, 1) := dk_get dk_d03_355 12 rfl
theorem dX12_voter_112 : decode cX12_voter 112 = .ok (.getfield 152, 3) := dk_get dk_d03_355 13 rfl
theorem dX12_voter_115 : decode cX12_voter 115 = .ok (.iadd, 1) := dk_get dk_d03_355 14 rfl
theorem dX12_voter_116 : decode cX12_voter 116 = .ok (.iconst 0, 1) := dk_get dk_d03_355 15 rfl
theorem dX12_voter_117 : decode cX12_voter 117 = .ok (.iastore, 1) := dk_get dk_d03_355 16 rfl
theorem dX12_voter_118 : decode cX12_voter 118 = .ok (.aload_n 0, 1) := dk_get dk_d03_355 17 rfl
theorem dX12_voter_119 : decode cX12_voter 119 = .ok (.getfield 7, 3) := dk_get dk_d03_355 18 rfl
theorem dX12_voter_122 : decode cX12_voter 122 = .ok (.bipush 47, 2) := dk_get dk_d03_355 19 rfl
theorem dX12_voter_124 : decode cX12_voter 124 = .ok (.aload_n 0, 1) := dk_get dk_d03_355 20 rfl
theorem dX12_voter_125 : decode cX12_voter 125 = .ok (.getfield 152, 3) := dk_get dk_d03_355 21 rfl
theorem dX12_voter_128 : decode cX12_voter 128 = .ok (.iadd, 1) := dk_get dk_d03_355 22 rfl
theorem dX12_voter_129 : decode cX12_voter 129 = .ok (.iconst 0, 1) := dk_get dk_d03_355 23 rfl
theorem dX12_voter_130 : decode cX12_voter 130 = .ok (.iastore, 1) := dk_get dk_d03_355 24 rfl
theorem dk_d03_356 : dkc cX12_voter [(131, .aload_n 0, 1), (132, .aload_n 0, 1), (133, .getfield 152, 3), (136, .iconst 1, 1), (137, .iadd, 1), (138, .putfield 152, 3), (141, .aload_n 0, 1), (142, .iconst 0, 1), (143, .putfield 143, 3), (146, .aload_n 0, 1), (147, .getfield 152, 3), (150, .iconst 1, 1), (151, .isub, 1), (152, .ireturn, 1)] = true := by decide +kernel
theorem dX12_voter_131 : decode cX12_voter 131 = .ok (.aload_n 0, 1) := dk_get dk_d03_356 0 rfl
theorem dX12_voter_132 : decode cX12_voter 132 = .ok (.aload_n 0, 1) := dk_get dk_d03_356 1 rfl
theorem dX12_voter_133 : decode cX12_voter 133 = .ok (.getfield 152, 3) := dk_get dk_d03_356 2 rfl
theorem dX12_voter_136 : decode cX12_voter 136 = .ok (.iconst 1, 1) := dk_get dk_d03_356 3 rfl
theorem dX12_voter_137 : decode cX12_voter 137 = .ok (.iadd, 1) := dk_get dk_d03_356 4 rfl
theorem dX12_voter_138 : decode cX12_voter 138 = .ok (.putfield 152, 3) := dk_get dk_d03_356 5 rfl
theorem dX12_voter_141 : decode cX12_voter 141 = .ok (.aload_n 0, 1) := dk_get dk_d03_356 6 rfl
theorem dX12_voter_142 : decode cX12_voter 142 = .ok (.iconst 0, 1) := dk_get dk_d03_356 7 rfl
theorem dX12_voter_143 : decode cX12_voter 143 = .ok (.putfield 143, 3) := dk_get dk_d03_356 8 rfl
theorem dX12_voter_146 : decode cX12_voter 146 = .ok (.aload_n 0, 1) := dk_get dk_d03_356 9 rfl
theorem dX12_voter_147 : decode cX12_voter 147 = .ok (.getfield 152, 3) := dk_get dk_d03_356 10 rfl
theorem dX12_voter_150 : decode cX12_voter 150 = .ok (.iconst 1, 1) := dk_get dk_d03_356 11 rfl
theorem dX12_voter_151 : decode cX12_voter 151 = .ok (.isub, 1) := dk_get dk_d03_356 12 rfl
theorem dX12_voter_152 : decode cX12_voter 152 = .ok (.ireturn, 1) := dk_get dk_d03_356 13 rfl
theorem dk_d03_357 : dkc cX12_canSet [(0, .iload_n 1, 1), (1, .iconst 4, 1), (2, .if_icmp .ne 12, 3), (5, .aload_n 0, 1), (6, .iload_n 3, 1), (7, .iconst 0, 1), (8, .bipush 9, 2), (10, .invokevirtual 155, 3), (13, .ireturn, 1), (14, .aload_n 0, 1), (15, .iload_n 1, 1), (16, .iconst 0, 1), (17, .iconst 3, 1), (18, .invokevirtual 155, 3), (21, .ifCond .eq 11, 3), (24, .aload_n 0, 1), (25, .iload_n 2, 1), (26, .invokevirtual 159, 3), (29, .ifCond .ne 5, 3), (32, .iconst 0, 1), (33, .ireturn, 1), (34, .aload_n 0, 1), (35, .iload_n 3, 1), (36, .iload_n 1, 1), (37, .iconst 1, 1)] = true := by decide +kernel
theorem dX12_canSet_0 : decode cX12_canSet 0 = .ok (.iload_n 1, 1) := dk_get dk_d03_357 0 rfl
theorem dX12_canSet_1 : decode cX12_canSet 1 = .ok (.iconst 4, 1) := dk_get dk_d03_357 1 rfl
theorem dX12_canSet_2 : decode cX12_canSet 2 = .ok (.if_icmp .ne 12, 3) := dk_get dk_d03_357 2 rfl
theorem dX12_canSet_5 : decode cX12_canSet 5 = .ok (.aload_n 0, 1) := dk_get dk_d03_357 3 rfl
theorem dX12_canSet_6 : decode cX12_canSet 6 = .ok (.iload_n 3, 1) := dk_get dk_d03_357 4 rfl
theorem dX12_canSet_7 : decode cX12_canSet 7 = .ok (.iconst 0, 1) := dk_get dk_d03_357 5 rfl
theorem dX12_canSet_8 : decode cX12_canSet 8 = .ok (.bipush 9, 2) := dk_get dk_d03_357 6 rfl
theorem dX12_canSet_10 : decode cX12_canSet 10 = .ok (.invokevirtual 155, 3) := dk_get dk_d03_357 7 rfl
theorem dX12_canSet_13 : decode cX12_canSet 13 = .ok (.ireturn, 1) := dk_get dk_d03_357 8 rfl
theorem dX12_canSet_14 : decode cX12_canSet 14 = .ok (.aload_n 0, 1) := dk_get dk_d03_357 9 rfl
theorem dX12_canSet_15 : decode cX12_canSet 15 = .ok (.iload_n 1, 1) := dk_get dk_d03_357 10 rfl
theorem dX12_canSet_16 : decode cX12_canSet 16 = .ok (.iconst 0, 1) := dk_get dk_d03_357 11 rfl
theorem dX12_canSet_17 : decode cX12_canSet 17 = .ok (.iconst 3, 1) := dk_get dk_d03_357 12 rfl
theorem dX12_canSet_18 : decode cX12_canSet 18 = .ok (.invokevirtual 155, 3) := dk_get dk_d03_357 13 rfl
theorem dX12_canSet_21 : decode cX12_canSet 21 = .ok (.ifCond .eq 11, 3) := dk_get dk_d03_357 14 rfl
theorem dX12_canSet_24 : decode cX12_canSet 24 = .ok (.aload_n 0, 1) := dk_get dk_d03_357 15 rfl
theorem dX12_canSet_25 : decode cX12_canSet 25 = .ok (.iload_n 2, 1) := dk_get dk_d03_357 16 rfl
theorem dX12_canSet_26 : decode cX12_canSet 26 = .ok (.invokevirtual 159, 3) := dk_get dk_d03_357 17 rfl
theorem dX12_canSet_29 : decode cX12_canSet 29 = .ok (.ifCond .ne 5, 3) := dk_get dk_d03_357 18 rfl
theorem dX12_canSet_32 : decode cX12_canSet 32 = .ok (.iconst 0, 1) := dk_get dk_d03_357 19 rfl
theorem dX12_canSet_33 : decode cX12_canSet 33 = .ok (.ireturn, 1) := dk_get dk_d03_357 20 rfl
theorem dX12_canSet_34 : decode cX12_canSet 34 = .ok (.aload_n 0, 1) := dk_get dk_d03_357 21 rfl
theorem dX12_canSet_35 : decode cX12_canSet 35 = .ok (.iload_n 3, 1) := dk_get dk_d03_357 22 rfl
theorem dX12_canSet_36 : decode cX12_canSet 36 = .ok (.iload_n 1, 1) := dk_get dk_d03_357 23 rfl
theorem dX12_canSet_37 : decode cX12_canSet 37 = .ok (.iconst 1, 1) := dk_get dk_d03_357 24 rfl
theorem dk_d03_358 : dkc cX12_canSet [(38, .if_icmp .ne 7, 3), (41, .iconst (-1), 1), (42, .goto 4, 3), (45, .iconst 0, 1), (46, .iload_n 1, 1), (47, .ifCond .ne 9, 3), (50, .sipush 255, 3), (53, .goto 24, 3), (56, .iload_n 1, 1), (57, .iconst 1, 1), (58, .if_icmp .ne 7, 3), (61, .iconst 1, 1), (62, .goto 15, 3), (65, .iload_n 1, 1), (66, .iconst 2, 1), (67, .if_icmp .ne 8, 3), (70, .bipush 11, 2), (72, .goto 5, 3), (75, .bipush 9, 2), (77, .invokevirtual 155, 3), (80, .ireturn, 1)] = true := by decide +kernel
theorem dX12_canSet_38 : decode cX12_canSet 38 = .ok (.if_icmp .ne 7, 3) := dk_get dk_d03_358 0 rfl
theorem dX12_canSet_41 : decode cX12_canSet 41 = .ok (.iconst (-1), 1) := dk_get dk_d03_358 1 rfl
theorem dX12_canSet_42 : decode cX12_canSet 42 = .ok (.goto 4, 3) := dk_get dk_d03_358 2 rfl
theorem dX12_canSet_45 : decode cX12_canSet 45 = .ok (.iconst 0, 1) := dk_get dk_d03_358 3 rfl
theorem dX12_canSet_46 : decode cX12_canSet 46 = .ok (.iload_n 1, 1) := dk_get dk_d03_358 4 rfl
theorem dX12_canSet_47 : decode cX12_canSet 47 = .ok (.ifCond .ne 9, 3) := dk_get dk_d03_358 5 rfl
theorem dX12_canSet_50 : decode cX12_canSet 50 = .ok (.sipush 255, 3) := dk_get dk_d03_358 6 rfl
theorem dX12_canSet_53 : decode cX12_canSet 53 = .ok (.goto 24, 3) := dk_get dk_d03_358 7 rfl
theorem dX12_canSet_56 : decode cX12_canSet 56 = .ok (.iload_n 1, 1) := dk_get dk_d03_358 8 rfl
theorem dX12_canSet_57 : decode cX12_canSet 57 = .ok (.iconst 1, 1) := dk_get dk_d03_358 9 rfl
theorem dX12_canSet_58 : decode cX12_canSet 58 = .ok (.if_icmp .ne 7, 3) := dk_get dk_d03_358 10 rfl
theorem dX12_canSet_61 : decode cX12_canSet 61 = .ok (.iconst 1, 1) := dk_get dk_d03_358 11 rfl
theorem dX12_canSet_62 : decode cX12_canSet 62 = .ok (.goto 15, 3) := dk_get dk_d03_358 12 rfl
theorem dX12_canSet_65 : decode cX12_canSet 65 = .ok (.iload_n 1, 1) := dk_get dk_d03_358 13 rfl
theorem dX12_canSet_66 : decode cX12_canSet 66 = .ok (.iconst 2, 1) := dk_get dk_d03_358 14 rfl
theorem dX12_canSet_67 : decode cX12_canSet 67 = .ok (.if_icmp .ne 8, 3) := dk_get dk_d03_358 15 rfl
theorem dX12_canSet_70 : decode cX12_canSet 70 = .ok (.bipush 11, 2) := dk_get dk_d03_358 16 rfl
theorem dX12_canSet_72 : decode cX12_canSet 72 = .ok (.goto 5, 3) := dk_get dk_d03_358 17 rfl
theorem dX12_canSet_75 : decode cX12_canSet 75 = .ok (.bipush 9, 2) := dk_get dk_d03_358 18 rfl
theorem dX12_canSet_77 : decode cX12_canSet 77 = .ok (.invokevirtual 155, 3) := dk_get dk_d03_358 19 rfl
theorem dX12_canSet_80 : decode cX12_canSet 80 = .ok (.ireturn, 1) := dk_get dk_d03_358 20 rfl
theorem dk_d03_359 : dkc cX12_set [(0, .aload_n 0, 1), (1, .iconst 0, 1), (2, .putfield 140, 3), (5, .aload_n 0, 1), (6, .iload_n 1, 1), (7, .iload_n 2, 1), (8, .iload_n 3, 1), (9, .invokevirtual 163, 3), (12, .ifCond .ne 5, 3), (15, .iconst 0, 1), (16, .ireturn, 1), (17, .iload_n 1, 1), (18, .ifCond .ne 10, 3), (21, .aload_n 0, 1), (22, .getfield 19, 3), (25, .iload_n 2, 1), (26, .iload_n 3, 1), (27, .iastore, 1), (28, .iload_n 1, 1), (29, .iconst 1, 1), (30, .if_icmp .ne 13, 3), (33, .aload_n 0, 1), (34, .getfield 7, 3), (37, .bipush 7, 2), (39, .iload_n 2, 1)] = true := by decide +kernel
theorem dX12_set_0 : decode cX12_set 0 = .ok (.aload_n 0, 1) := dk_get dk_d03_359 0 rfl
theorem dX12_set_1 : decode cX12_set 1 = .ok (.iconst 0, 1) := dk_get dk_d03_359 1 rfl
theorem dX12_set_2 : decode cX12_set 2 = .ok (.putfield 140, 3) := dk_get dk_d03_359 2 rfl
theorem dX12_set_5 : decode cX12_set 5 = .ok (.aload_n 0, 1) := dk_get dk_d03_359 3 rfl
theorem dX12_set_6 : decode cX12_set 6 = .ok (.iload_n 1, 1) := dk_get dk_d03_359 4 rfl
theorem dX12_set_7 : decode cX12_set 7 = .ok (.iload_n 2, 1) := dk_get dk_d03_359 5 rfl
theorem dX12_set_8 : decode cX12_set 8 = .ok (.iload_n 3, 1) := dk_get dk_d03_359 6 rfl
theorem dX12_set_9 : decode cX12_set 9 = .ok (.invokevirtual 163, 3) := dk_get dk_d03_359 7 rfl
theorem dX12_set_12 : decode cX12_set 12 = .ok (.ifCond .ne 5, 3) := dk_get dk_d03_359 8 rfl
theorem dX12_set_15 : decode cX12_set 15 = .ok (.iconst 0, 1) := dk_get dk_d03_359 9 rfl
theorem dX12_set_16 : decode cX12_set 16 = .ok (.ireturn, 1) := dk_get dk_d03_359 10 rfl
theorem dX12_set_17 : decode cX12_set 17 = .ok (.iload_n 1, 1) := dk_get dk_d03_359 11 rfl
theorem dX12_set_18 : decode cX12_set 18 = .ok (.ifCond .ne 10, 3) := dk_get dk_d03_359 12 rfl
theorem dX12_set_21 : decode cX12_set 21 = .ok (.aload_n 0, 1) := dk_get dk_d03_359 13 rfl
theorem dX12_set_22 : decode cX12_set 22 = .ok (.getfield 19, 3) := dk_get dk_d03_359 14 rfl
theorem dX12_set_25 : decode cX12_set 25 = .ok (.iload_n 2, 1) := dk_get dk_d03_359 15 rfl
theorem dX12_set_26 : decode cX12_set 26 = .ok (.iload_n 3, 1) := dk_get dk_d03_359 16 rfl
theorem dX12_set_27 : decode cX12_set 27 = .ok (.iastore, 1) := dk_get dk_d03_359 17 rfl
theorem dX12_set_28 : decode cX12_set 28 = .ok (.iload_n 1, 1) := dk_get dk_d03_359 18 rfl
theorem dX12_set_29 : decode cX12_set 29 = .ok (.iconst 1, 1) := dk_get dk_d03_359 19 rfl
theorem dX12_set_30 : decode cX12_set 30 = .ok (.if_icmp .ne 13, 3) := dk_get dk_d03_359 20 rfl
theorem dX12_set_33 : decode cX12_set 33 = .ok (.aload_n 0, 1) := dk_get dk_d03_359 21 rfl
theorem dX12_set_34 : decode cX12_set 34 = .ok (.getfield 7, 3) := dk_get dk_d03_359 22 rfl
theorem dX12_set_37 : decode cX12_set 37 = .ok (.bipush 7, 2) := dk_get dk_d03_359 23 rfl
theorem dX12_set_39 : decode cX12_set 39 = .ok (.iload_n 2, 1) := dk_get dk_d03_359 24 rfl
theorem dk_d03_360 : dkc cX12_set [(40, .iadd, 1), (41, .iload_n 3, 1), (42, .iastore, 1), (43, .iload_n 1, 1), (44, .iconst 2, 1), (45, .if_icmp .ne 10, 3), (48, .aload_n 0, 1), (49, .getfield 22, 3), (52, .iload_n 2, 1), (53, .iload_n 3, 1), (54, .iastore, 1), (55, .iload_n 1, 1), (56, .iconst 3, 1), (57, .if_icmp .ne 10, 3), (60, .aload_n 0, 1), (61, .getfield 25, 3), (64, .iload_n 2, 1), (65, .iload_n 3, 1), (66, .iastore, 1), (67, .iload_n 1, 1), (68, .iconst 4, 1), (69, .if_icmp .ne 10, 3), (72, .aload_n 0, 1), (73, .getfield 7, 3), (76, .iconst 4, 1)] = true := by decide +kernel
theorem dX12_set_40 : decode cX12_set 40 = .ok (.iadd, 1) := dk_get dk_d03_360 0 rfl
theorem dX12_set_41 : decode cX12_set 41 = .ok (.iload_n 3, 1) := dk_get dk_d03_360 1 rfl
theorem dX12_set_42 : decode cX12_set 42 = .ok (.iastore, 1) := dk_get dk_d03_360 2 rfl
theorem dX12_set_43 : decode cX12_set 43 = .ok (.iload_n 1, 1) := dk_get dk_d03_360 3 rfl
theorem dX12_set_44 : decode cX12_set 44 = .ok (.iconst 2, 1) := dk_get dk_d03_360 4 rfl
theorem dX12_set_45 : decode cX12_set 45 = .ok (.if_icmp .ne 10, 3) := dk_get dk_d03_360 5 rfl
theorem dX12_set_48 : decode cX12_set 48 = .ok (.aload_n 0, 1) := dk_get dk_d03_360 6 rfl
theorem dX12_set_49 : decode cX12_set 49 = .ok (.getfield 22, 3) := dk_get dk_d03_360 7 rfl
theorem dX12_set_52 : decode cX12_set 52 = .ok (.iload_n 2, 1) := dk_get dk_d03_360 8 rfl
theorem dX12_set_53 : decode cX12_set 53 = .ok (.iload_n 3, 1) := dk_get dk_d03_360 9 rfl
theorem dX12_set_54 : decode cX12_set 54 = .ok (.iastore, 1) := dk_get dk_d03_360 10 rfl
theorem dX12_set_55 : decode cX12_set 55 = .ok (.iload_n 1, 1) := dk_get dk_d03_360 11 rfl
theorem dX12_set_56 : decode cX12_set 56 = .ok (.iconst 3, 1) := dk_get dk_d03_360 12 rfl
theorem dX12_set_57 : decode cX12_set 57 = .ok (.if_icmp .ne 10, 3) := dk_get dk_d03_360 13 rfl
theorem dX12_set_60 : decode cX12_set 60 = .ok (.aload_n 0, 1) := dk_get dk_d03_360 14 rfl
theorem dX12_set_61 : decode cX12_set 61 = .ok (.getfield 25, 3) := dk_get dk_d03_360 15 rfl
theorem dX12_set_64 : decode cX12_set 64 = .ok (.iload_n 2, 1) := dk_get dk_d03_360 16 rfl
theorem dX12_set_65 : decode cX12_set 65 = .ok (.iload_n 3, 1) := dk_get dk_d03_360 17 rfl
theorem dX12_set_66 : decode cX12_set 66 = .ok (.iastore, 1) := dk_get dk_d03_360 18 rfl
theorem dX12_set_67 : decode cX12_set 67 = .ok (.iload_n 1, 1) := dk_get dk_d03_360 19 rfl
theorem dX12_set_68 : decode cX12_set 68 = .ok (.iconst 4, 1) := dk_get dk_d03_360 20 rfl
theorem dX12_set_69 : decode cX12_set 69 = .ok (.if_icmp .ne 10, 3) := dk_get dk_d03_360 21 rfl
theorem dX12_set_72 : decode cX12_set 72 = .ok (.aload_n 0, 1) := dk_get dk_d03_360 22 rfl
theorem dX12_set_73 : decode cX12_set 73 = .ok (.getfield 7, 3) := dk_get dk_d03_360 23 rfl
theorem dX12_set_76 : decode cX12_set 76 = .ok (.iconst 4, 1) := dk_get dk_d03_360 24 rfl
theorem dk_d03_361 : dkc cX12_set [(77, .iload_n 3, 1), (78, .iastore, 1), (79, .aload_n 0, 1), (80, .iconst 0, 1), (81, .putfield 143, 3), (84, .iconst 1, 1), (85, .ireturn, 1)] = true := by decide +kernel
theorem dX12_set_77 : decode cX12_set 77 = .ok (.iload_n 3, 1) := dk_get dk_d03_361 0 rfl
theorem dX12_set_78 : decode cX12_set 78 = .ok (.iastore, 1) := dk_get dk_d03_361 1 rfl
theorem dX12_set_79 : decode cX12_set 79 = .ok (.aload_n 0, 1) := dk_get dk_d03_361 2 rfl
theorem dX12_set_80 : decode cX12_set 80 = .ok (.iconst 0, 1) := dk_get dk_d03_361 3 rfl
theorem dX12_set_81 : decode cX12_set 81 = .ok (.putfield 143, 3) := dk_get dk_d03_361 4 rfl
theorem dX12_set_84 : decode cX12_set 84 = .ok (.iconst 1, 1) := dk_get dk_d03_361 5 rfl
theorem dX12_set_85 : decode cX12_set 85 = .ok (.ireturn, 1) := dk_get dk_d03_361 6 rfl
theorem dk_d03_362 : dkc cX12_types [(0, .bipush 24, 2), (2, .istore_n 2, 1), (3, .iload_n 2, 1), (4, .ifCond .lt 35, 3), (7, .aload_n 0, 1), (8, .getfield 31, 3), (11, .aload_n 0, 1), (12, .getfield 166, 3), (15, .iload_n 1, 1), (16, .iload_n 2, 1), (17, .ishr, 1), (18, .sipush 255, 3), (21, .iand, 1), (22, .iastore, 1), (23, .aload_n 0, 1), (24, .aload_n 0, 1), (25, .getfield 166, 3), (28, .iconst 1, 1), (29, .iadd, 1), (30, .putfield 166, 3), (33, .iinc 2 (-8), 3), (36, .goto (-33), 3), (39, .return_, 1)] = true := by decide +kernel
theorem dX12_types_0 : decode cX12_types 0 = .ok (.bipush 24, 2) := dk_get dk_d03_362 0 rfl
theorem dX12_types_2 : decode cX12_types 2 = .ok (.istore_n 2, 1) := dk_get dk_d03_362 1 rfl
theorem dX12_types_3 : decode cX12_types 3 = .ok (.iload_n 2, 1) := dk_get dk_d03_362 2 rfl
theorem dX12_types_4 : decode cX12_types 4 = .ok (.ifCond .lt 35, 3) := dk_get dk_d03_362 3 rfl
theorem dX12_types_7 : decode cX12_types 7 = .ok (.aload_n 0, 1) := dk_get dk_d03_362 4 rfl
theorem dX12_types_8 : decode cX12_types 8 = .ok (.getfield 31, 3) := dk_get dk_d03_362 5 rfl
theorem dX12_types_11 : decode cX12_types 11 = .ok (.aload_n 0, 1) := dk_get dk_d03_362 6 rfl
theorem dX12_types_12 : decode cX12_types 12 = .ok (.getfield 166, 3) := dk_get dk_d03_362 7 rfl
theorem dX12_types_15 : decode cX12_types 15 = .ok (.iload_n 1, 1) := dk_get dk_d03_362 8 rfl
theorem dX12_types_16 : decode cX12_types 16 = .ok (.iload_n 2, 1) := dk_get dk_d03_362 9 rfl
theorem dX12_types_17 : decode cX12_types 17 = .ok (.ishr, 1) := dk_get dk_d03_362 10 rfl
theorem dX12_types_18 : decode cX12_types 18 = .ok (.sipush 255, 3) := dk_get dk_d03_362 11 rfl
theorem dX12_types_21 : decode cX12_types 21 = .ok (.iand, 1) := dk_get dk_d03_362 12 rfl
theorem dX12_types_22 : decode cX12_types 22 = .ok (.iastore, 1) := dk_get dk_d03_362 13 rfl
theorem dX12_types_23 : decode cX12_types 23 = .ok (.aload_n 0, 1) := dk_get dk_d03_362 14 rfl
theorem dX12_types_24 : decode cX12_types 24 = .ok (.aload_n 0, 1) := dk_get dk_d03_362 15 rfl
theorem dX12_types_25 : decode cX12_types 25 = .ok (.getfield 166, 3) := dk_get dk_d03_362 16 rfl
theorem dX12_types_28 : decode cX12_types 28 = .ok (.iconst 1, 1) := dk_get dk_d03_362 17 rfl
theorem dX12_types_29 : decode cX12_types 29 = .ok (.iadd, 1) := dk_get dk_d03_362 18 rfl
theorem dX12_types_30 : decode cX12_types 30 = .ok (.putfield 166, 3) := dk_get dk_d03_362 19 rfl
theorem dX12_types_33 : decode cX12_types 33 = .ok (.iinc 2 (-8), 3) := dk_get dk_d03_362 20 rfl
theorem dX12_types_36 : decode cX12_types 36 = .ok (.goto (-33), 3) := dk_get dk_d03_362 21 rfl
theorem dX12_types_39 : decode cX12_types 39 = .ok (.return_, 1) := dk_get dk_d03_362 22 rfl
theorem dk_d03_363 : dkc cX12_feed [(0, .aload_n 0, 1), (1, .iconst 0, 1), (2, .putfield 140, 3), (5, .aload_n 0, 1), (6, .getfield 166, 3), (9, .sipush 380, 3), (12, .if_icmp .le 5, 3), (15, .iconst (-1), 1), (16, .ireturn, 1), (17, .aload_n 0, 1), (18, .iload_n 1, 1), (19, .invokevirtual 169, 3), (22, .aload_n 0, 1), (23, .iload_n 2, 1), (24, .invokevirtual 169, 3), (27, .aload_n 0, 1), (28, .iload_n 3, 1), (29, .invokevirtual 169, 3), (32, .aload_n 0, 1), (33, .iload 4, 2), (35, .invokevirtual 169, 3), (38, .aload_n 0, 1), (39, .iload 5, 2), (41, .invokevirtual 169, 3), (44, .aload_n 0, 1)] = true := by decide +kernel
theorem dX12_feed_0 : decode cX12_feed 0 = .ok (.aload_n 0, 1) := dk_get dk_d03_363 0 rfl
theorem dX12_feed_1 : decode cX12_feed 1 = .ok (.iconst 0, 1) := dk_get dk_d03_363 1 rfl
theorem dX12_feed_2 : decode cX12_feed 2 = .ok (.putfield 140, 3) := dk_get dk_d03_363 2 rfl
theorem dX12_feed_5 : decode cX12_feed 5 = .ok (.aload_n 0, 1) := dk_get dk_d03_363 3 rfl
theorem dX12_feed_6 : decode cX12_feed 6 = .ok (.getfield 166, 3) := dk_get dk_d03_363 4 rfl
theorem dX12_feed_9 : decode cX12_feed 9 = .ok (.sipush 380, 3) := dk_get dk_d03_363 5 rfl
theorem dX12_feed_12 : decode cX12_feed 12 = .ok (.if_icmp .le 5, 3) := dk_get dk_d03_363 6 rfl
theorem dX12_feed_15 : decode cX12_feed 15 = .ok (.iconst (-1), 1) := dk_get dk_d03_363 7 rfl
theorem dX12_feed_16 : decode cX12_feed 16 = .ok (.ireturn, 1) := dk_get dk_d03_363 8 rfl
theorem dX12_feed_17 : decode cX12_feed 17 = .ok (.aload_n 0, 1) := dk_get dk_d03_363 9 rfl
theorem dX12_feed_18 : decode cX12_feed 18 = .ok (.iload_n 1, 1) := dk_get dk_d03_363 10 rfl
theorem dX12_feed_19 : decode cX12_feed 19 = .ok (.invokevirtual 169, 3) := dk_get dk_d03_363 11 rfl
theorem dX12_feed_22 : decode cX12_feed 22 = .ok (.aload_n 0, 1) := dk_get dk_d03_363 12 rfl
theorem dX12_feed_23 : decode cX12_feed 23 = .ok (.iload_n 2, 1) := dk_get dk_d03_363 13 rfl
theorem dX12_feed_24 : decode cX12_feed 24 = .ok (.invokevirtual 169, 3) := dk_get dk_d03_363 14 rfl
theorem dX12_feed_27 : decode cX12_feed 27 = .ok (.aload_n 0, 1) := dk_get dk_d03_363 15 rfl
theorem dX12_feed_28 : decode cX12_feed 28 = .ok (.iload_n 3, 1) := dk_get dk_d03_363 16 rfl
theorem dX12_feed_29 : decode cX12_feed 29 = .ok (.invokevirtual 169, 3) := dk_get dk_d03_363 17 rfl
theorem dX12_feed_32 : decode cX12_feed 32 = .ok (.aload_n 0, 1) := dk_get dk_d03_363 18 rfl
theorem dX12_feed_33 : decode cX12_feed 33 = .ok (.iload 4, 2) := dk_get dk_d03_363 19 rfl
theorem dX12_feed_35 : decode cX12_feed 35 = .ok (.invokevirtual 169, 3) := dk_get dk_d03_363 20 rfl
theorem dX12_feed_38 : decode cX12_feed 38 = .ok (.aload_n 0, 1) := dk_get dk_d03_363 21 rfl
theorem dX12_feed_39 : decode cX12_feed 39 = .ok (.iload 5, 2) := dk_get dk_d03_363 22 rfl
theorem dX12_feed_41 : decode cX12_feed 41 = .ok (.invokevirtual 169, 3) := dk_get dk_d03_363 23 rfl
theorem dX12_feed_44 : decode cX12_feed 44 = .ok (.aload_n 0, 1) := dk_get dk_d03_363 24 rfl
theorem dk_d03_364 : dkc cX12_feed [(45, .getfield 166, 3), (48, .ireturn, 1)] = true := by decide +kernel
theorem dX12_feed_45 : decode cX12_feed 45 = .ok (.getfield 166, 3) := dk_get dk_d03_364 0 rfl
theorem dX12_feed_48 : decode cX12_feed 48 = .ok (.ireturn, 1) := dk_get dk_d03_364 1 rfl
theorem dk_d03_365 : dkc cX12_end [(0, .aload_n 0, 1), (1, .iconst 0, 1), (2, .putfield 140, 3), (5, .aload_n 0, 1), (6, .iload_n 1, 1), (7, .iconst 0, 1), (8, .aload_n 0, 1), (9, .getfield 166, 3), (12, .invokevirtual 155, 3), (15, .ifCond .ne 5, 3), (18, .iconst 0, 1), (19, .ireturn, 1), (20, .aload_n 0, 1), (21, .iload_n 1, 1), (22, .putfield 166, 3), (25, .iconst 1, 1), (26, .ireturn, 1)] = true := by decide +kernel
theorem dX12_end_0 : decode cX12_end 0 = .ok (.aload_n 0, 1) := dk_get dk_d03_365 0 rfl
theorem dX12_end_1 : decode cX12_end 1 = .ok (.iconst 0, 1) := dk_get dk_d03_365 1 rfl
theorem dX12_end_2 : decode cX12_end 2 = .ok (.putfield 140, 3) := dk_get dk_d03_365 2 rfl
theorem dX12_end_5 : decode cX12_end 5 = .ok (.aload_n 0, 1) := dk_get dk_d03_365 3 rfl
theorem dX12_end_6 : decode cX12_end 6 = .ok (.iload_n 1, 1) := dk_get dk_d03_365 4 rfl
theorem dX12_end_7 : decode cX12_end 7 = .ok (.iconst 0, 1) := dk_get dk_d03_365 5 rfl
theorem dX12_end_8 : decode cX12_end 8 = .ok (.aload_n 0, 1) := dk_get dk_d03_365 6 rfl
theorem dX12_end_9 : decode cX12_end 9 = .ok (.getfield 166, 3) := dk_get dk_d03_365 7 rfl
theorem dX12_end_12 : decode cX12_end 12 = .ok (.invokevirtual 155, 3) := dk_get dk_d03_365 8 rfl
theorem dX12_end_15 : decode cX12_end 15 = .ok (.ifCond .ne 5, 3) := dk_get dk_d03_365 9 rfl
theorem dX12_end_18 : decode cX12_end 18 = .ok (.iconst 0, 1) := dk_get dk_d03_365 10 rfl
theorem dX12_end_19 : decode cX12_end 19 = .ok (.ireturn, 1) := dk_get dk_d03_365 11 rfl
theorem dX12_end_20 : decode cX12_end 20 = .ok (.aload_n 0, 1) := dk_get dk_d03_365 12 rfl
theorem dX12_end_21 : decode cX12_end 21 = .ok (.iload_n 1, 1) := dk_get dk_d03_365 13 rfl
theorem dX12_end_22 : decode cX12_end 22 = .ok (.putfield 166, 3) := dk_get dk_d03_365 14 rfl
theorem dX12_end_25 : decode cX12_end 25 = .ok (.iconst 1, 1) := dk_get dk_d03_365 15 rfl
theorem dX12_end_26 : decode cX12_end 26 = .ok (.ireturn, 1) := dk_get dk_d03_365 16 rfl
theorem dk_d03_366 : dkc cX12_raw [(0, .iload_n 1, 1), (1, .aload_n 0, 1), (2, .getfield 166, 3), (5, .if_icmp .ge 12, 3), (8, .aload_n 0, 1), (9, .getfield 31, 3), (12, .iload_n 1, 1), (13, .iaload, 1), (14, .goto 4, 3), (17, .iconst (-1), 1), (18, .ireturn, 1)] = true := by decide +kernel
theorem dX12_raw_0 : decode cX12_raw 0 = .ok (.iload_n 1, 1) := dk_get dk_d03_366 0 rfl
theorem dX12_raw_1 : decode cX12_raw 1 = .ok (.aload_n 0, 1) := dk_get dk_d03_366 1 rfl
theorem dX12_raw_2 : decode cX12_raw 2 = .ok (.getfield 166, 3) := dk_get dk_d03_366 2 rfl
theorem dX12_raw_5 : decode cX12_raw 5 = .ok (.if_icmp .ge 12, 3) := dk_get dk_d03_366 3 rfl
theorem dX12_raw_8 : decode cX12_raw 8 = .ok (.aload_n 0, 1) := dk_get dk_d03_366 4 rfl
theorem dX12_raw_9 : decode cX12_raw 9 = .ok (.getfield 31, 3) := dk_get dk_d03_366 5 rfl
theorem dX12_raw_12 : decode cX12_raw 12 = .ok (.iload_n 1, 1) := dk_get dk_d03_366 6 rfl
theorem dX12_raw_13 : decode cX12_raw 13 = .ok (.iaload, 1) := dk_get dk_d03_366 7 rfl
theorem dX12_raw_14 : decode cX12_raw 14 = .ok (.goto 4, 3) := dk_get dk_d03_366 8 rfl
theorem dX12_raw_17 : decode cX12_raw 17 = .ok (.iconst (-1), 1) := dk_get dk_d03_366 9 rfl
theorem dX12_raw_18 : decode cX12_raw 18 = .ok (.ireturn, 1) := dk_get dk_d03_366 10 rfl
theorem dk_d03_367 : dkc cX12_isLetter [(0, .aload_n 0, 1), (1, .iload_n 1, 1), (2, .bipush 97, 2), (4, .bipush 122, 2), (6, .invokevirtual 155, 3), (9, .ifCond .ne 15, 3), (12, .aload_n 0, 1), (13, .iload_n 1, 1), (14, .bipush 65, 2), (16, .bipush 90, 2), (18, .invokevirtual 155, 3), (21, .ifCond .eq 7, 3), (24, .iconst 1, 1), (25, .goto 4, 3), (28, .iconst 0, 1), (29, .ireturn, 1)] = true := by decide +kernel
theorem dX12_isLetter_0 : decode cX12_isLetter 0 = .ok (.aload_n 0, 1) := dk_get dk_d03_367 0 rfl
theorem dX12_isLetter_1 : decode cX12_isLetter 1 = .ok (.iload_n 1, 1) := dk_get dk_d03_367 1 rfl
theorem dX12_isLetter_2 : decode cX12_isLetter 2 = .ok (.bipush 97, 2) := dk_get dk_d03_367 2 rfl
theorem dX12_isLetter_4 : decode cX12_isLetter 4 = .ok (.bipush 122, 2) := dk_get dk_d03_367 3 rfl
theorem dX12_isLetter_6 : decode cX12_isLetter 6 = .ok (.invokevirtual 155, 3) := dk_get dk_d03_367 4 rfl
theorem dX12_isLetter_9 : decode cX12_isLetter 9 = .ok (.ifCond .ne 15, 3) := dk_get dk_d03_367 5 rfl
theorem dX12_isLetter_12 : decode cX12_isLetter 12 = .ok (.aload_n 0, 1) := dk_get dk_d03_367 6 rfl
theorem dX12_isLetter_13 : decode cX12_isLetter 13 = .ok (.iload_n 1, 1) := dk_get dk_d03_367 7 rfl
theorem dX12_isLetter_14 : decode cX12_isLetter 14 = .ok (.bipush 65, 2) := dk_get dk_d03_367 8 rfl
theorem dX12_isLetter_16 : decode cX12_isLetter 16 = .ok (.bipush 90, 2) := dk_get dk_d03_367 9 rfl
theorem dX12_isLetter_18 : decode cX12_isLetter 18 = .ok (.invokevirtual 155, 3) := dk_get dk_d03_367 10 rfl
theorem dX12_isLetter_21 : decode cX12_isLetter 21 = .ok (.ifCond .eq 7, 3) := dk_get dk_d03_367 11 rfl
theorem dX12_isLetter_24 : decode cX12_isLetter 24 = .ok (.iconst 1, 1) := dk_get dk_d03_367 12 rfl
theorem dX12_isLetter_25 : decode cX12_isLetter 25 = .ok (.goto 4, 3) := dk_get dk_d03_367 13 rfl
theorem dX12_isLetter_28 : decode cX12_isLetter 28 = .ok (.iconst 0, 1) := dk_get dk_d03_367 14 rfl
theorem dX12_isLetter_29 : decode cX12_isLetter 29 = .ok (.ireturn, 1) := dk_get dk_d03_367 15 rfl
theorem dk_d03_368 : dkc cX12_isDigit [(0, .aload_n 0, 1), (1, .iload_n 1, 1), (2, .bipush 48, 2), (4, .bipush 57, 2), (6, .invokevirtual 155, 3), (9, .ireturn, 1)] = true := by decide +kernel
theorem dX12_isDigit_0 : decode cX12_isDigit 0 = .ok (.aload_n 0, 1) := dk_get dk_d03_368 0 rfl
theorem dX12_isDigit_1 : decode cX12_isDigit 1 = .ok (.iload_n 1, 1) := dk_get dk_d03_368 1 rfl
theorem dX12_isDigit_2 : decode cX12_isDigit 2 = .ok (.bipush 48, 2) := dk_get dk_d03_368 2 rfl
theorem dX12_isDigit_4 : decode cX12_isDigit 4 = .ok (.bipush 57, 2) := dk_get dk_d03_368 3 rfl
theorem dX12_isDigit_6 : decode cX12_isDigit 6 = .ok (.invokevirtual 155, 3) := dk_get dk_d03_368 4 rfl
theorem dX12_isDigit_9 : decode cX12_isDigit 9 = .ok (.ireturn, 1) := dk_get dk_d03_368 5 rfl
theorem dk_d03_369 : dkc cX12_isMarkSign [(0, .iload_n 1, 1), (1, .bipush 59, 2), (3, .if_icmp .eq 57, 3), (6, .iload_n 1, 1), (7, .bipush 43, 2), (9, .if_icmp .eq 51, 3), (12, .iload_n 1, 1), (13, .bipush 45, 2), (15, .if_icmp .eq 45, 3), (18, .iload_n 1, 1), (19, .bipush 42, 2), (21, .if_icmp .eq 39, 3), (24, .iload_n 1, 1), (25, .bipush 47, 2), (27, .if_icmp .eq 33, 3), (30, .iload_n 1, 1), (31, .bipush 40, 2), (33, .if_icmp .eq 27, 3), (36, .iload_n 1, 1), (37, .bipush 41, 2), (39, .if_icmp .eq 21, 3), (42, .iload_n 1, 1), (43, .bipush 60, 2), (45, .if_icmp .eq 15, 3), (48, .iload_n 1, 1)] = true := by decide +kernel
theorem dX12_isMarkSign_0 : decode cX12_isMarkSign 0 = .ok (.iload_n 1, 1) := dk_get dk_d03_369 0 rfl
theorem dX12_isMarkSign_1 : decode cX12_isMarkSign 1 = .ok (.bipush 59, 2) := dk_get dk_d03_369 1 rfl
theorem dX12_isMarkSign_3 : decode cX12_isMarkSign 3 = .ok (.if_icmp .eq 57, 3) := dk_get dk_d03_369 2 rfl
theorem dX12_isMarkSign_6 : decode cX12_isMarkSign 6 = .ok (.iload_n 1, 1) := dk_get dk_d03_369 3 rfl
theorem dX12_isMarkSign_7 : decode cX12_isMarkSign 7 = .ok (.bipush 43, 2) := dk_get dk_d03_369 4 rfl
theorem dX12_isMarkSign_9 : decode cX12_isMarkSign 9 = .ok (.if_icmp .eq 51, 3) := dk_get dk_d03_369 5 rfl
theorem dX12_isMarkSign_12 : decode cX12_isMarkSign 12 = .ok (.iload_n 1, 1) := dk_get dk_d03_369 6 rfl
theorem dX12_isMarkSign_13 : decode cX12_isMarkSign 13 = .ok (.bipush 45, 2) := dk_get dk_d03_369 7 rfl
theorem dX12_isMarkSign_15 : decode cX12_isMarkSign 15 = .ok (.if_icmp .eq 45, 3) := dk_get dk_d03_369 8 rfl
theorem dX12_isMarkSign_18 : decode cX12_isMarkSign 18 = .ok (.iload_n 1, 1) := dk_get dk_d03_369 9 rfl
theorem dX12_isMarkSign_19 : decode cX12_isMarkSign 19 = .ok (.bipush 42, 2) := dk_get dk_d03_369 10 rfl
theorem dX12_isMarkSign_21 : decode cX12_isMarkSign 21 = .ok (.if_icmp .eq 39, 3) := dk_get dk_d03_369 11 rfl
theorem dX12_isMarkSign_24 : decode cX12_isMarkSign 24 = .ok (.iload_n 1, 1) := dk_get dk_d03_369 12 rfl
theorem dX12_isMarkSign_25 : decode cX12_isMarkSign 25 = .ok (.bipush 47, 2) := dk_get dk_d03_369 13 rfl
theorem dX12_isMarkSign_27 : decode cX12_isMarkSign 27 = .ok (.if_icmp .eq 33, 3) := dk_get dk_d03_369 14 rfl
theorem dX12_isMarkSign_30 : decode cX12_isMarkSign 30 = .ok (.iload_n 1, 1) := dk_get dk_d03_369 15 rfl
theorem dX12_isMarkSign_31 : decode cX12_isMarkSign 31 = .ok (.bipush 40, 2) := dk_get dk_d03_369 16 rfl
theorem dX12_isMarkSign_33 : decode cX12_isMarkSign 33 = .ok (.if_icmp .eq 27, 3) := dk_get dk_d03_369 17 rfl
theorem dX12_isMarkSign_36 : decode cX12_isMarkSign 36 = .ok (.iload_n 1, 1) := dk_get dk_d03_369 18 rfl
theorem dX12_isMarkSign_37 : decode cX12_isMarkSign 37 = .ok (.bipush 41, 2) := dk_get dk_d03_369 19 rfl
theorem dX12_isMarkSign_39 : decode cX12_isMarkSign 39 = .ok (.if_icmp .eq 21, 3) := dk_get dk_d03_369 20 rfl
theorem dX12_isMarkSign_42 : decode cX12_isMarkSign 42 = .ok (.iload_n 1, 1) := dk_get dk_d03_369 21 rfl
theorem dX12_isMarkSign_43 : decode cX12_isMarkSign 43 = .ok (.bipush 60, 2) := dk_get dk_d03_369 22 rfl
theorem dX12_isMarkSign_45 : decode cX12_isMarkSign 45 = .ok (.if_icmp .eq 15, 3) := dk_get dk_d03_369 23 rfl
theorem dX12_isMarkSign_48 : decode cX12_isMarkSign 48 = .ok (.iload_n 1, 1) := dk_get dk_d03_369 24 rfl
theorem dk_d03_370 : dkc cX12_isMarkSign [(49, .bipush 61, 2), (51, .if_icmp .eq 9, 3), (54, .iload_n 1, 1), (55, .bipush 62, 2), (57, .if_icmp .ne 7, 3), (60, .iconst 1, 1), (61, .goto 4, 3), (64, .iconst 0, 1), (65, .ireturn, 1)] = true := by decide +kernel
theorem dX12_isMarkSign_49 : decode cX12_isMarkSign 49 = .ok (.bipush 61, 2) := dk_get dk_d03_370 0 rfl
theorem dX12_isMarkSign_51 : decode cX12_isMarkSign 51 = .ok (.if_icmp .eq 9, 3) := dk_get dk_d03_370 1 rfl
theorem dX12_isMarkSign_54 : decode cX12_isMarkSign 54 = .ok (.iload_n 1, 1) := dk_get dk_d03_370 2 rfl
theorem dX12_isMarkSign_55 : decode cX12_isMarkSign 55 = .ok (.bipush 62, 2) := dk_get dk_d03_370 3 rfl
theorem dX12_isMarkSign_57 : decode cX12_isMarkSign 57 = .ok (.if_icmp .ne 7, 3) := dk_get dk_d03_370 4 rfl
theorem dX12_isMarkSign_60 : decode cX12_isMarkSign 60 = .ok (.iconst 1, 1) := dk_get dk_d03_370 5 rfl
theorem dX12_isMarkSign_61 : decode cX12_isMarkSign 61 = .ok (.goto 4, 3) := dk_get dk_d03_370 6 rfl
theorem dX12_isMarkSign_64 : decode cX12_isMarkSign 64 = .ok (.iconst 0, 1) := dk_get dk_d03_370 7 rfl
theorem dX12_isMarkSign_65 : decode cX12_isMarkSign 65 = .ok (.ireturn, 1) := dk_get dk_d03_370 8 rfl
theorem dk_d03_371 : dkc cX12_wordAt [(0, .iconst (-1), 1), (1, .istore_n 3, 1), (2, .iconst 0, 1), (3, .istore 4, 2), (5, .iload 4, 2), (7, .sipush 132, 3), (10, .if_icmp .ge 108, 3), (13, .iconst 0, 1), (14, .istore 5, 2), (16, .iload_n 3, 1), (17, .iconst 1, 1), (18, .iadd, 1), (19, .istore_n 3, 1), (20, .iload_n 1, 1), (21, .iload 5, 2), (23, .iadd, 1), (24, .iload_n 2, 1), (25, .if_icmp .ge 36, 3), (28, .aload_n 0, 1), (29, .getfield 34, 3), (32, .iload 4, 2), (34, .iconst 1, 1), (35, .iadd, 1), (36, .iload 5, 2), (38, .iadd, 1)] = true := by decide +kernel
theorem dX12_wordAt_0 : decode cX12_wordAt 0 = .ok (.iconst (-1), 1) := dk_get dk_d03_371 0 rfl
theorem dX12_wordAt_1 : decode cX12_wordAt 1 = .ok (.istore_n 3, 1) := dk_get dk_d03_371 1 rfl
theorem dX12_wordAt_2 : decode cX12_wordAt 2 = .ok (.iconst 0, 1) := dk_get dk_d03_371 2 rfl
theorem dX12_wordAt_3 : decode cX12_wordAt 3 = .ok (.istore 4, 2) := dk_get dk_d03_371 3 rfl
theorem dX12_wordAt_5 : decode cX12_wordAt 5 = .ok (.iload 4, 2) := dk_get dk_d03_371 4 rfl
theorem dX12_wordAt_7 : decode cX12_wordAt 7 = .ok (.sipush 132, 3) := dk_get dk_d03_371 5 rfl
theorem dX12_wordAt_10 : decode cX12_wordAt 10 = .ok (.if_icmp .ge 108, 3) := dk_get dk_d03_371 6 rfl
theorem dX12_wordAt_13 : decode cX12_wordAt 13 = .ok (.iconst 0, 1) := dk_get dk_d03_371 7 rfl
theorem dX12_wordAt_14 : decode cX12_wordAt 14 = .ok (.istore 5, 2) := dk_get dk_d03_371 8 rfl
theorem dX12_wordAt_16 : decode cX12_wordAt 16 = .ok (.iload_n 3, 1) := dk_get dk_d03_371 9 rfl
theorem dX12_wordAt_17 : decode cX12_wordAt 17 = .ok (.iconst 1, 1) := dk_get dk_d03_371 10 rfl
theorem dX12_wordAt_18 : decode cX12_wordAt 18 = .ok (.iadd, 1) := dk_get dk_d03_371 11 rfl
theorem dX12_wordAt_19 : decode cX12_wordAt 19 = .ok (.istore_n 3, 1) := dk_get dk_d03_371 12 rfl
theorem dX12_wordAt_20 : decode cX12_wordAt 20 = .ok (.iload_n 1, 1) := dk_get dk_d03_371 13 rfl
theorem dX12_wordAt_21 : decode cX12_wordAt 21 = .ok (.iload 5, 2) := dk_get dk_d03_371 14 rfl
theorem dX12_wordAt_23 : decode cX12_wordAt 23 = .ok (.iadd, 1) := dk_get dk_d03_371 15 rfl
theorem dX12_wordAt_24 : decode cX12_wordAt 24 = .ok (.iload_n 2, 1) := dk_get dk_d03_371 16 rfl
theorem dX12_wordAt_25 : decode cX12_wordAt 25 = .ok (.if_icmp .ge 36, 3) := dk_get dk_d03_371 17 rfl
theorem dX12_wordAt_28 : decode cX12_wordAt 28 = .ok (.aload_n 0, 1) := dk_get dk_d03_371 18 rfl
theorem dX12_wordAt_29 : decode cX12_wordAt 29 = .ok (.getfield 34, 3) := dk_get dk_d03_371 19 rfl
theorem dX12_wordAt_32 : decode cX12_wordAt 32 = .ok (.iload 4, 2) := dk_get dk_d03_371 20 rfl
theorem dX12_wordAt_34 : decode cX12_wordAt 34 = .ok (.iconst 1, 1) := dk_get dk_d03_371 21 rfl
theorem dX12_wordAt_35 : decode cX12_wordAt 35 = .ok (.iadd, 1) := dk_get dk_d03_371 22 rfl
theorem dX12_wordAt_36 : decode cX12_wordAt 36 = .ok (.iload 5, 2) := dk_get dk_d03_371 23 rfl
theorem dX12_wordAt_38 : decode cX12_wordAt 38 = .ok (.iadd, 1) := dk_get dk_d03_371 24 rfl
theorem dk_d03_372 : dkc cX12_wordAt [(39, .iaload, 1), (40, .aload_n 0, 1), (41, .getfield 31, 3), (44, .iload_n 1, 1), (45, .iload 5, 2), (47, .iadd, 1), (48, .iaload, 1), (49, .if_icmp .ne 12, 3), (52, .iload 5, 2), (54, .iconst 1, 1), (55, .iadd, 1), (56, .istore 5, 2), (58, .goto (-38), 3), (61, .iload_n 1, 1), (62, .iload 5, 2), (64, .iadd, 1), (65, .iload_n 2, 1), (66, .if_icmp .ne 22, 3), (69, .aload_n 0, 1), (70, .getfield 34, 3), (73, .iload 4, 2), (75, .iconst 1, 1), (76, .iadd, 1), (77, .iload 5, 2), (79, .iadd, 1)] = true := by decide +kernel
theorem dX12_wordAt_39 : decode cX12_wordAt 39 = .ok (.iaload, 1) := dk_get dk_d03_372 0 rfl
theorem dX12_wordAt_40 : decode cX12_wordAt 40 = .ok (.aload_n 0, 1) := dk_get dk_d03_372 1 rfl
theorem dX12_wordAt_41 : decode cX12_wordAt 41 = .ok (.getfield 31, 3) := dk_get dk_d03_372 2 rfl
theorem dX12_wordAt_44 : decode cX12_wordAt 44 = .ok (.iload_n 1, 1) := dk_get dk_d03_372 3 rfl
theorem dX12_wordAt_45 : decode cX12_wordAt 45 = .ok (.iload 5, 2) := dk_get dk_d03_372 4 rfl
theorem dX12_wordAt_47 : decode cX12_wordAt 47 = .ok (.iadd, 1) := dk_get dk_d03_372 5 rfl
theorem dX12_wordAt_48 : decode cX12_wordAt 48 = .ok (.iaload, 1) := dk_get dk_d03_372 6 rfl
theorem dX12_wordAt_49 : decode cX12_wordAt 49 = .ok (.if_icmp .ne 12, 3) := dk_get dk_d03_372 7 rfl
theorem dX12_wordAt_52 : decode cX12_wordAt 52 = .ok (.iload 5, 2) := dk_get dk_d03_372 8 rfl
theorem dX12_wordAt_54 : decode cX12_wordAt 54 = .ok (.iconst 1, 1) := dk_get dk_d03_372 9 rfl
theorem dX12_wordAt_55 : decode cX12_wordAt 55 = .ok (.iadd, 1) := dk_get dk_d03_372 10 rfl
theorem dX12_wordAt_56 : decode cX12_wordAt 56 = .ok (.istore 5, 2) := dk_get dk_d03_372 11 rfl
theorem dX12_wordAt_58 : decode cX12_wordAt 58 = .ok (.goto (-38), 3) := dk_get dk_d03_372 12 rfl
theorem dX12_wordAt_61 : decode cX12_wordAt 61 = .ok (.iload_n 1, 1) := dk_get dk_d03_372 13 rfl
theorem dX12_wordAt_62 : decode cX12_wordAt 62 = .ok (.iload 5, 2) := dk_get dk_d03_372 14 rfl
theorem dX12_wordAt_64 : decode cX12_wordAt 64 = .ok (.iadd, 1) := dk_get dk_d03_372 15 rfl
theorem dX12_wordAt_65 : decode cX12_wordAt 65 = .ok (.iload_n 2, 1) := dk_get dk_d03_372 16 rfl
theorem dX12_wordAt_66 : decode cX12_wordAt 66 = .ok (.if_icmp .ne 22, 3) := dk_get dk_d03_372 17 rfl
theorem dX12_wordAt_69 : decode cX12_wordAt 69 = .ok (.aload_n 0, 1) := dk_get dk_d03_372 18 rfl
theorem dX12_wordAt_70 : decode cX12_wordAt 70 = .ok (.getfield 34, 3) := dk_get dk_d03_372 19 rfl
theorem dX12_wordAt_73 : decode cX12_wordAt 73 = .ok (.iload 4, 2) := dk_get dk_d03_372 20 rfl
theorem dX12_wordAt_75 : decode cX12_wordAt 75 = .ok (.iconst 1, 1) := dk_get dk_d03_372 21 rfl
theorem dX12_wordAt_76 : decode cX12_wordAt 76 = .ok (.iadd, 1) := dk_get dk_d03_372 22 rfl
theorem dX12_wordAt_77 : decode cX12_wordAt 77 = .ok (.iload 5, 2) := dk_get dk_d03_372 23 rfl
theorem dX12_wordAt_79 : decode cX12_wordAt 79 = .ok (.iadd, 1) := dk_get dk_d03_372 24 rfl
theorem dk_d03_373 : dkc cX12_wordAt [(80, .iaload, 1), (81, .bipush 32, 2), (83, .if_icmp .ne 5, 3), (86, .iload_n 3, 1), (87, .ireturn, 1), (88, .iload 4, 2), (90, .iconst 1, 1), (91, .iadd, 1), (92, .istore 4, 2), (94, .aload_n 0, 1), (95, .getfield 34, 3), (98, .iload 4, 2), (100, .iaload, 1), (101, .bipush 32, 2), (103, .if_icmp .eq 12, 3), (106, .iload 4, 2), (108, .iconst 1, 1), (109, .iadd, 1), (110, .istore 4, 2), (112, .goto (-18), 3), (115, .goto (-110), 3), (118, .iconst (-1), 1), (119, .ireturn, 1)] = true := by decide +kernel
theorem dX12_wordAt_80 : decode cX12_wordAt 80 = .ok (.iaload, 1) := dk_get dk_d03_373 0 rfl
theorem dX12_wordAt_81 : decode cX12_wordAt 81 = .ok (.bipush 32, 2) := dk_get dk_d03_373 1 rfl
theorem dX12_wordAt_83 : decode cX12_wordAt 83 = .ok (.if_icmp .ne 5, 3) := dk_get dk_d03_373 2 rfl
theorem dX12_wordAt_86 : decode cX12_wordAt 86 = .ok (.iload_n 3, 1) := dk_get dk_d03_373 3 rfl
theorem dX12_wordAt_87 : decode cX12_wordAt 87 = .ok (.ireturn, 1) := dk_get dk_d03_373 4 rfl
theorem dX12_wordAt_88 : decode cX12_wordAt 88 = .ok (.iload 4, 2) := dk_get dk_d03_373 5 rfl
theorem dX12_wordAt_90 : decode cX12_wordAt 90 = .ok (.iconst 1, 1) := dk_get dk_d03_373 6 rfl
theorem dX12_wordAt_91 : decode cX12_wordAt 91 = .ok (.iadd, 1) := dk_get dk_d03_373 7 rfl
theorem dX12_wordAt_92 : decode cX12_wordAt 92 = .ok (.istore 4, 2) := dk_get dk_d03_373 8 rfl
theorem dX12_wordAt_94 : decode cX12_wordAt 94 = .ok (.aload_n 0, 1) := dk_get dk_d03_373 9 rfl
theorem dX12_wordAt_95 : decode cX12_wordAt 95 = .ok (.getfield 34, 3) := dk_get dk_d03_373 10 rfl
theorem dX12_wordAt_98 : decode cX12_wordAt 98 = .ok (.iload 4, 2) := dk_get dk_d03_373 11 rfl
theorem dX12_wordAt_100 : decode cX12_wordAt 100 = .ok (.iaload, 1) := dk_get dk_d03_373 12 rfl
theorem dX12_wordAt_101 : decode cX12_wordAt 101 = .ok (.bipush 32, 2) := dk_get dk_d03_373 13 rfl
theorem dX12_wordAt_103 : decode cX12_wordAt 103 = .ok (.if_icmp .eq 12, 3) := dk_get dk_d03_373 14 rfl
theorem dX12_wordAt_106 : decode cX12_wordAt 106 = .ok (.iload 4, 2) := dk_get dk_d03_373 15 rfl
theorem dX12_wordAt_108 : decode cX12_wordAt 108 = .ok (.iconst 1, 1) := dk_get dk_d03_373 16 rfl
theorem dX12_wordAt_109 : decode cX12_wordAt 109 = .ok (.iadd, 1) := dk_get dk_d03_373 17 rfl
theorem dX12_wordAt_110 : decode cX12_wordAt 110 = .ok (.istore 4, 2) := dk_get dk_d03_373 18 rfl
theorem dX12_wordAt_112 : decode cX12_wordAt 112 = .ok (.goto (-18), 3) := dk_get dk_d03_373 19 rfl
theorem dX12_wordAt_115 : decode cX12_wordAt 115 = .ok (.goto (-110), 3) := dk_get dk_d03_373 20 rfl
theorem dX12_wordAt_118 : decode cX12_wordAt 118 = .ok (.iconst (-1), 1) := dk_get dk_d03_373 21 rfl
theorem dX12_wordAt_119 : decode cX12_wordAt 119 = .ok (.ireturn, 1) := dk_get dk_d03_373 22 rfl
theorem dk_d03_374 : dkc cX12_reads [(0, .aload_n 0, 1), (1, .aload_n 0, 1), (2, .getfield 173, 3), (5, .invokevirtual 176, 3), (8, .bipush 32, 2), (10, .if_icmp .eq 16, 3), (13, .aload_n 0, 1), (14, .aload_n 0, 1), (15, .getfield 173, 3), (18, .invokevirtual 176, 3), (21, .bipush 10, 2), (23, .if_icmp .ne 16, 3), (26, .aload_n 0, 1), (27, .aload_n 0, 1), (28, .getfield 173, 3), (31, .iconst 1, 1), (32, .iadd, 1), (33, .putfield 173, 3), (36, .goto (-36), 3), (39, .aload_n 0, 1), (40, .aload_n 0, 1), (41, .getfield 173, 3), (44, .putfield 180, 3), (47, .aload_n 0, 1), (48, .iconst 1, 1)] = true := by decide +kernel
theorem dX12_reads_0 : decode cX12_reads 0 = .ok (.aload_n 0, 1) := dk_get dk_d03_374 0 rfl
theorem dX12_reads_1 : decode cX12_reads 1 = .ok (.aload_n 0, 1) := dk_get dk_d03_374 1 rfl
theorem dX12_reads_2 : decode cX12_reads 2 = .ok (.getfield 173, 3) := dk_get dk_d03_374 2 rfl
theorem dX12_reads_5 : decode cX12_reads 5 = .ok (.invokevirtual 176, 3) := dk_get dk_d03_374 3 rfl
theorem dX12_reads_8 : decode cX12_reads 8 = .ok (.bipush 32, 2) := dk_get dk_d03_374 4 rfl
theorem dX12_reads_10 : decode cX12_reads 10 = .ok (.if_icmp .eq 16, 3) := dk_get dk_d03_374 5 rfl
theorem dX12_reads_13 : decode cX12_reads 13 = .ok (.aload_n 0, 1) := dk_get dk_d03_374 6 rfl
theorem dX12_reads_14 : decode cX12_reads 14 = .ok (.aload_n 0, 1) := dk_get dk_d03_374 7 rfl
theorem dX12_reads_15 : decode cX12_reads 15 = .ok (.getfield 173, 3) := dk_get dk_d03_374 8 rfl
theorem dX12_reads_18 : decode cX12_reads 18 = .ok (.invokevirtual 176, 3) := dk_get dk_d03_374 9 rfl
theorem dX12_reads_21 : decode cX12_reads 21 = .ok (.bipush 10, 2) := dk_get dk_d03_374 10 rfl
theorem dX12_reads_23 : decode cX12_reads 23 = .ok (.if_icmp .ne 16, 3) := dk_get dk_d03_374 11 rfl
theorem dX12_reads_26 : decode cX12_reads 26 = .ok (.aload_n 0, 1) := dk_get dk_d03_374 12 rfl
theorem dX12_reads_27 : decode cX12_reads 27 = .ok (.aload_n 0, 1) := dk_get dk_d03_374 13 rfl
theorem dX12_reads_28 : decode cX12_reads 28 = .ok (.getfield 173, 3) := dk_get dk_d03_374 14 rfl
theorem dX12_reads_31 : decode cX12_reads 31 = .ok (.iconst 1, 1) := dk_get dk_d03_374 15 rfl
theorem dX12_reads_32 : decode cX12_reads 32 = .ok (.iadd, 1) := dk_get dk_d03_374 16 rfl
theorem dX12_reads_33 : decode cX12_reads 33 = .ok (.putfield 173, 3) := dk_get dk_d03_374 17 rfl
theorem dX12_reads_36 : decode cX12_reads 36 = .ok (.goto (-36), 3) := dk_get dk_d03_374 18 rfl
theorem dX12_reads_39 : decode cX12_reads 39 = .ok (.aload_n 0, 1) := dk_get dk_d03_374 19 rfl
theorem dX12_reads_40 : decode cX12_reads 40 = .ok (.aload_n 0, 1) := dk_get dk_d03_374 20 rfl
theorem dX12_reads_41 : decode cX12_reads 41 = .ok (.getfield 173, 3) := dk_get dk_d03_374 21 rfl
theorem dX12_reads_44 : decode cX12_reads 44 = .ok (.putfield 180, 3) := dk_get dk_d03_374 22 rfl
theorem dX12_reads_47 : decode cX12_reads 47 = .ok (.aload_n 0, 1) := dk_get dk_d03_374 23 rfl
theorem dX12_reads_48 : decode cX12_reads 48 = .ok (.iconst 1, 1) := dk_get dk_d03_374 24 rfl
theorem dk_d03_375 : dkc cX12_reads [(49, .putfield 183, 3), (52, .aload_n 0, 1), (53, .aload_n 0, 1), (54, .getfield 173, 3), (57, .invokevirtual 176, 3), (60, .istore_n 1, 1), (61, .iload_n 1, 1), (62, .iconst (-1), 1), (63, .if_icmp .ne 9, 3), (66, .aload_n 0, 1), (67, .iconst 0, 1), (68, .putfield 183, 3), (71, .return_, 1), (72, .aload_n 0, 1), (73, .aload_n 0, 1), (74, .getfield 173, 3), (77, .iconst 1, 1), (78, .iadd, 1), (79, .putfield 173, 3), (82, .aload_n 0, 1), (83, .iload_n 1, 1), (84, .putfield 186, 3), (87, .aload_n 0, 1), (88, .iload_n 1, 1), (89, .invokevirtual 189, 3)] = true := by decide +kernel
theorem dX12_reads_49 : decode cX12_reads 49 = .ok (.putfield 183, 3) := dk_get dk_d03_375 0 rfl
theorem dX12_reads_52 : decode cX12_reads 52 = .ok (.aload_n 0, 1) := dk_get dk_d03_375 1 rfl
theorem dX12_reads_53 : decode cX12_reads 53 = .ok (.aload_n 0, 1) := dk_get dk_d03_375 2 rfl
theorem dX12_reads_54 : decode cX12_reads 54 = .ok (.getfield 173, 3) := dk_get dk_d03_375 3 rfl
theorem dX12_reads_57 : decode cX12_reads 57 = .ok (.invokevirtual 176, 3) := dk_get dk_d03_375 4 rfl
theorem dX12_reads_60 : decode cX12_reads 60 = .ok (.istore_n 1, 1) := dk_get dk_d03_375 5 rfl
theorem dX12_reads_61 : decode cX12_reads 61 = .ok (.iload_n 1, 1) := dk_get dk_d03_375 6 rfl
theorem dX12_reads_62 : decode cX12_reads 62 = .ok (.iconst (-1), 1) := dk_get dk_d03_375 7 rfl
theorem dX12_reads_63 : decode cX12_reads 63 = .ok (.if_icmp .ne 9, 3) := dk_get dk_d03_375 8 rfl
theorem dX12_reads_66 : decode cX12_reads 66 = .ok (.aload_n 0, 1) := dk_get dk_d03_375 9 rfl
theorem dX12_reads_67 : decode cX12_reads 67 = .ok (.iconst 0, 1) := dk_get dk_d03_375 10 rfl
theorem dX12_reads_68 : decode cX12_reads 68 = .ok (.putfield 183, 3) := dk_get dk_d03_375 11 rfl
theorem dX12_reads_71 : decode cX12_reads 71 = .ok (.return_, 1) := dk_get dk_d03_375 12 rfl
theorem dX12_reads_72 : decode cX12_reads 72 = .ok (.aload_n 0, 1) := dk_get dk_d03_375 13 rfl
theorem dX12_reads_73 : decode cX12_reads 73 = .ok (.aload_n 0, 1) := dk_get dk_d03_375 14 rfl
theorem dX12_reads_74 : decode cX12_reads 74 = .ok (.getfield 173, 3) := dk_get dk_d03_375 15 rfl
theorem dX12_reads_77 : decode cX12_reads 77 = .ok (.iconst 1, 1) := dk_get dk_d03_375 16 rfl
theorem dX12_reads_78 : decode cX12_reads 78 = .ok (.iadd, 1) := dk_get dk_d03_375 17 rfl
theorem dX12_reads_79 : decode cX12_reads 79 = .ok (.putfield 173, 3) := dk_get dk_d03_375 18 rfl
theorem dX12_reads_82 : decode cX12_reads 82 = .ok (.aload_n 0, 1) := dk_get dk_d03_375 19 rfl
theorem dX12_reads_83 : decode cX12_reads 83 = .ok (.iload_n 1, 1) := dk_get dk_d03_375 20 rfl
theorem dX12_reads_84 : decode cX12_reads 84 = .ok (.putfield 186, 3) := dk_get dk_d03_375 21 rfl
theorem dX12_reads_87 : decode cX12_reads 87 = .ok (.aload_n 0, 1) := dk_get dk_d03_375 22 rfl
theorem dX12_reads_88 : decode cX12_reads 88 = .ok (.iload_n 1, 1) := dk_get dk_d03_375 23 rfl
theorem dX12_reads_89 : decode cX12_reads 89 = .ok (.invokevirtual 189, 3) := dk_get dk_d03_375 24 rfl
theorem dk_d03_376 : dkc cX12_reads [(92, .ifCond .eq 63, 3), (95, .aload_n 0, 1), (96, .aload_n 0, 1), (97, .aload_n 0, 1), (98, .getfield 173, 3), (101, .invokevirtual 176, 3), (104, .invokevirtual 189, 3), (107, .ifCond .eq 16, 3), (110, .aload_n 0, 1), (111, .aload_n 0, 1), (112, .getfield 173, 3), (115, .iconst 1, 1), (116, .iadd, 1), (117, .putfield 173, 3), (120, .goto (-25), 3), (123, .aload_n 0, 1), (124, .aload_n 0, 1), (125, .aload_n 0, 1), (126, .getfield 180, 3), (129, .aload_n 0, 1), (130, .getfield 173, 3), (133, .invokevirtual 192, 3), (136, .putfield 186, 3), (139, .aload_n 0, 1), (140, .getfield 186, 3)] = true := by decide +kernel
theorem dX12_reads_92 : decode cX12_reads 92 = .ok (.ifCond .eq 63, 3) := dk_get dk_d03_376 0 rfl
theorem dX12_reads_95 : decode cX12_reads 95 = .ok (.aload_n 0, 1) := dk_get dk_d03_376 1 rfl
theorem dX12_reads_96 : decode cX12_reads 96 = .ok (.aload_n 0, 1) := dk_get dk_d03_376 2 rfl
theorem dX12_reads_97 : decode cX12_reads 97 = .ok (.aload_n 0, 1) := dk_get dk_d03_376 3 rfl
theorem dX12_reads_98 : decode cX12_reads 98 = .ok (.getfield 173, 3) := dk_get dk_d03_376 4 rfl
theorem dX12_reads_101 : decode cX12_reads 101 = .ok (.invokevirtual 176, 3) := dk_get dk_d03_376 5 rfl
theorem dX12_reads_104 : decode cX12_reads 104 = .ok (.invokevirtual 189, 3) := dk_get dk_d03_376 6 rfl
theorem dX12_reads_107 : decode cX12_reads 107 = .ok (.ifCond .eq 16, 3) := dk_get dk_d03_376 7 rfl
theorem dX12_reads_110 : decode cX12_reads 110 = .ok (.aload_n 0, 1) := dk_get dk_d03_376 8 rfl
theorem dX12_reads_111 : decode cX12_reads 111 = .ok (.aload_n 0, 1) := dk_get dk_d03_376 9 rfl
theorem dX12_reads_112 : decode cX12_reads 112 = .ok (.getfield 173, 3) := dk_get dk_d03_376 10 rfl
theorem dX12_reads_115 : decode cX12_reads 115 = .ok (.iconst 1, 1) := dk_get dk_d03_376 11 rfl
theorem dX12_reads_116 : decode cX12_reads 116 = .ok (.iadd, 1) := dk_get dk_d03_376 12 rfl
theorem dX12_reads_117 : decode cX12_reads 117 = .ok (.putfield 173, 3) := dk_get dk_d03_376 13 rfl
theorem dX12_reads_120 : decode cX12_reads 120 = .ok (.goto (-25), 3) := dk_get dk_d03_376 14 rfl
theorem dX12_reads_123 : decode cX12_reads 123 = .ok (.aload_n 0, 1) := dk_get dk_d03_376 15 rfl
theorem dX12_reads_124 : decode cX12_reads 124 = .ok (.aload_n 0, 1) := dk_get dk_d03_376 16 rfl
theorem dX12_reads_125 : decode cX12_reads 125 = .ok (.aload_n 0, 1) := dk_get dk_d03_376 17 rfl
theorem dX12_reads_126 : decode cX12_reads 126 = .ok (.getfield 180, 3) := dk_get dk_d03_376 18 rfl
theorem dX12_reads_129 : decode cX12_reads 129 = .ok (.aload_n 0, 1) := dk_get dk_d03_376 19 rfl
theorem dX12_reads_130 : decode cX12_reads 130 = .ok (.getfield 173, 3) := dk_get dk_d03_376 20 rfl
theorem dX12_reads_133 : decode cX12_reads 133 = .ok (.invokevirtual 192, 3) := dk_get dk_d03_376 21 rfl
theorem dX12_reads_136 : decode cX12_reads 136 = .ok (.putfield 186, 3) := dk_get dk_d03_376 22 rfl
theorem dX12_reads_139 : decode cX12_reads 139 = .ok (.aload_n 0, 1) := dk_get dk_d03_376 23 rfl
theorem dX12_reads_140 : decode cX12_reads 140 = .ok (.getfield 186, 3) := dk_get dk_d03_376 24 rfl
theorem dk_d03_377 : dkc cX12_reads [(143, .iconst (-1), 1), (144, .if_icmp .eq 129, 3), (147, .aload_n 0, 1), (148, .iconst 2, 1), (149, .putfield 183, 3), (152, .goto 121, 3), (155, .aload_n 0, 1), (156, .iload_n 1, 1), (157, .invokevirtual 196, 3), (160, .ifCond .eq 100, 3), (163, .aload_n 0, 1), (164, .iload_n 1, 1), (165, .bipush 48, 2), (167, .isub, 1), (168, .putfield 186, 3), (171, .aload_n 0, 1), (172, .aload_n 0, 1), (173, .aload_n 0, 1), (174, .getfield 173, 3), (177, .invokevirtual 176, 3), (180, .invokevirtual 196, 3), (183, .ifCond .eq 56, 3), (186, .aload_n 0, 1), (187, .aload_n 0, 1), (188, .getfield 186, 3)] = true := by decide +kernel
theorem dX12_reads_143 : decode cX12_reads 143 = .ok (.iconst (-1), 1) := dk_get dk_d03_377 0 rfl
theorem dX12_reads_144 : decode cX12_reads 144 = .ok (.if_icmp .eq 129, 3) := dk_get dk_d03_377 1 rfl
theorem dX12_reads_147 : decode cX12_reads 147 = .ok (.aload_n 0, 1) := dk_get dk_d03_377 2 rfl
theorem dX12_reads_148 : decode cX12_reads 148 = .ok (.iconst 2, 1) := dk_get dk_d03_377 3 rfl
theorem dX12_reads_149 : decode cX12_reads 149 = .ok (.putfield 183, 3) := dk_get dk_d03_377 4 rfl
theorem dX12_reads_152 : decode cX12_reads 152 = .ok (.goto 121, 3) := dk_get dk_d03_377 5 rfl
theorem dX12_reads_155 : decode cX12_reads 155 = .ok (.aload_n 0, 1) := dk_get dk_d03_377 6 rfl
theorem dX12_reads_156 : decode cX12_reads 156 = .ok (.iload_n 1, 1) := dk_get dk_d03_377 7 rfl
theorem dX12_reads_157 : decode cX12_reads 157 = .ok (.invokevirtual 196, 3) := dk_get dk_d03_377 8 rfl
theorem dX12_reads_160 : decode cX12_reads 160 = .ok (.ifCond .eq 100, 3) := dk_get dk_d03_377 9 rfl
theorem dX12_reads_163 : decode cX12_reads 163 = .ok (.aload_n 0, 1) := dk_get dk_d03_377 10 rfl
theorem dX12_reads_164 : decode cX12_reads 164 = .ok (.iload_n 1, 1) := dk_get dk_d03_377 11 rfl
theorem dX12_reads_165 : decode cX12_reads 165 = .ok (.bipush 48, 2) := dk_get dk_d03_377 12 rfl
theorem dX12_reads_167 : decode cX12_reads 167 = .ok (.isub, 1) := dk_get dk_d03_377 13 rfl
theorem dX12_reads_168 : decode cX12_reads 168 = .ok (.putfield 186, 3) := dk_get dk_d03_377 14 rfl
theorem dX12_reads_171 : decode cX12_reads 171 = .ok (.aload_n 0, 1) := dk_get dk_d03_377 15 rfl
theorem dX12_reads_172 : decode cX12_reads 172 = .ok (.aload_n 0, 1) := dk_get dk_d03_377 16 rfl
theorem dX12_reads_173 : decode cX12_reads 173 = .ok (.aload_n 0, 1) := dk_get dk_d03_377 17 rfl
theorem dX12_reads_174 : decode cX12_reads 174 = .ok (.getfield 173, 3) := dk_get dk_d03_377 18 rfl
theorem dX12_reads_177 : decode cX12_reads 177 = .ok (.invokevirtual 176, 3) := dk_get dk_d03_377 19 rfl
theorem dX12_reads_180 : decode cX12_reads 180 = .ok (.invokevirtual 196, 3) := dk_get dk_d03_377 20 rfl
theorem dX12_reads_183 : decode cX12_reads 183 = .ok (.ifCond .eq 56, 3) := dk_get dk_d03_377 21 rfl
theorem dX12_reads_186 : decode cX12_reads 186 = .ok (.aload_n 0, 1) := dk_get dk_d03_377 22 rfl
theorem dX12_reads_187 : decode cX12_reads 187 = .ok (.aload_n 0, 1) := dk_get dk_d03_377 23 rfl
theorem dX12_reads_188 : decode cX12_reads 188 = .ok (.getfield 186, 3) := dk_get dk_d03_377 24 rfl
theorem dk_d03_378 : dkc cX12_reads [(191, .sipush 10000, 3), (194, .if_icmp .ge 25, 3), (197, .bipush 10, 2), (199, .aload_n 0, 1), (200, .getfield 186, 3), (203, .imul, 1), (204, .aload_n 0, 1), (205, .aload_n 0, 1), (206, .getfield 173, 3), (209, .invokevirtual 176, 3), (212, .iadd, 1), (213, .bipush 48, 2), (215, .isub, 1), (216, .goto 7, 3), (219, .aload_n 0, 1), (220, .getfield 186, 3), (223, .putfield 186, 3), (226, .aload_n 0, 1), (227, .aload_n 0, 1), (228, .getfield 173, 3), (231, .iconst 1, 1), (232, .iadd, 1), (233, .putfield 173, 3), (236, .goto (-65), 3), (239, .aload_n 0, 1)] = true := by decide +kernel
theorem dX12_reads_191 : decode cX12_reads 191 = .ok (.sipush 10000, 3) := dk_get dk_d03_378 0 rfl
theorem dX12_reads_194 : decode cX12_reads 194 = .ok (.if_icmp .ge 25, 3) := dk_get dk_d03_378 1 rfl
theorem dX12_reads_197 : decode cX12_reads 197 = .ok (.bipush 10, 2) := dk_get dk_d03_378 2 rfl
theorem dX12_reads_199 : decode cX12_reads 199 = .ok (.aload_n 0, 1) := dk_get dk_d03_378 3 rfl
theorem dX12_reads_200 : decode cX12_reads 200 = .ok (.getfield 186, 3) := dk_get dk_d03_378 4 rfl
theorem dX12_reads_203 : decode cX12_reads 203 = .ok (.imul, 1) := dk_get dk_d03_378 5 rfl
theorem dX12_reads_204 : decode cX12_reads 204 = .ok (.aload_n 0, 1) := dk_get dk_d03_378 6 rfl
theorem dX12_reads_205 : decode cX12_reads 205 = .ok (.aload_n 0, 1) := dk_get dk_d03_378 7 rfl
theorem dX12_reads_206 : decode cX12_reads 206 = .ok (.getfield 173, 3) := dk_get dk_d03_378 8 rfl
theorem dX12_reads_209 : decode cX12_reads 209 = .ok (.invokevirtual 176, 3) := dk_get dk_d03_378 9 rfl
theorem dX12_reads_212 : decode cX12_reads 212 = .ok (.iadd, 1) := dk_get dk_d03_378 10 rfl
theorem dX12_reads_213 : decode cX12_reads 213 = .ok (.bipush 48, 2) := dk_get dk_d03_378 11 rfl
theorem dX12_reads_215 : decode cX12_reads 215 = .ok (.isub, 1) := dk_get dk_d03_378 12 rfl
theorem dX12_reads_216 : decode cX12_reads 216 = .ok (.goto 7, 3) := dk_get dk_d03_378 13 rfl
theorem dX12_reads_219 : decode cX12_reads 219 = .ok (.aload_n 0, 1) := dk_get dk_d03_378 14 rfl
theorem dX12_reads_220 : decode cX12_reads 220 = .ok (.getfield 186, 3) := dk_get dk_d03_378 15 rfl
theorem dX12_reads_223 : decode cX12_reads 223 = .ok (.putfield 186, 3) := dk_get dk_d03_378 16 rfl
theorem dX12_reads_226 : decode cX12_reads 226 = .ok (.aload_n 0, 1) := dk_get dk_d03_378 17 rfl
theorem dX12_reads_227 : decode cX12_reads 227 = .ok (.aload_n 0, 1) := dk_get dk_d03_378 18 rfl
theorem dX12_reads_228 : decode cX12_reads 228 = .ok (.getfield 173, 3) := dk_get dk_d03_378 19 rfl
theorem dX12_reads_231 : decode cX12_reads 231 = .ok (.iconst 1, 1) := dk_get dk_d03_378 20 rfl
theorem dX12_reads_232 : decode cX12_reads 232 = .ok (.iadd, 1) := dk_get dk_d03_378 21 rfl
theorem dX12_reads_233 : decode cX12_reads 233 = .ok (.putfield 173, 3) := dk_get dk_d03_378 22 rfl
theorem dX12_reads_236 : decode cX12_reads 236 = .ok (.goto (-65), 3) := dk_get dk_d03_378 23 rfl
theorem dX12_reads_239 : decode cX12_reads 239 = .ok (.aload_n 0, 1) := dk_get dk_d03_378 24 rfl
theorem dk_d03_379 : dkc cX12_reads [(240, .getfield 173, 3), (243, .aload_n 0, 1), (244, .getfield 180, 3), (247, .isub, 1), (248, .iconst 5, 1), (249, .if_icmp .ge 24, 3), (252, .aload_n 0, 1), (253, .iconst 3, 1), (254, .putfield 183, 3), (257, .goto 16, 3), (260, .aload_n 0, 1), (261, .iload_n 1, 1), (262, .invokevirtual 199, 3), (265, .ifCond .eq 8, 3), (268, .aload_n 0, 1), (269, .iconst 4, 1), (270, .putfield 183, 3), (273, .return_, 1)] = true := by decide +kernel
theorem dX12_reads_240 : decode cX12_reads 240 = .ok (.getfield 173, 3) := dk_get dk_d03_379 0 rfl
theorem dX12_reads_243 : decode cX12_reads 243 = .ok (.aload_n 0, 1) := dk_get dk_d03_379 1 rfl
theorem dX12_reads_244 : decode cX12_reads 244 = .ok (.getfield 180, 3) := dk_get dk_d03_379 2 rfl
theorem dX12_reads_247 : decode cX12_reads 247 = .ok (.isub, 1) := dk_get dk_d03_379 3 rfl
theorem dX12_reads_248 : decode cX12_reads 248 = .ok (.iconst 5, 1) := dk_get dk_d03_379 4 rfl
theorem dX12_reads_249 : decode cX12_reads 249 = .ok (.if_icmp .ge 24, 3) := dk_get dk_d03_379 5 rfl
theorem dX12_reads_252 : decode cX12_reads 252 = .ok (.aload_n 0, 1) := dk_get dk_d03_379 6 rfl
theorem dX12_reads_253 : decode cX12_reads 253 = .ok (.iconst 3, 1) := dk_get dk_d03_379 7 rfl
theorem dX12_reads_254 : decode cX12_reads 254 = .ok (.putfield 183, 3) := dk_get dk_d03_379 8 rfl
theorem dX12_reads_257 : decode cX12_reads 257 = .ok (.goto 16, 3) := dk_get dk_d03_379 9 rfl
theorem dX12_reads_260 : decode cX12_reads 260 = .ok (.aload_n 0, 1) := dk_get dk_d03_379 10 rfl
theorem dX12_reads_261 : decode cX12_reads 261 = .ok (.iload_n 1, 1) := dk_get dk_d03_379 11 rfl
theorem dX12_reads_262 : decode cX12_reads 262 = .ok (.invokevirtual 199, 3) := dk_get dk_d03_379 12 rfl
theorem dX12_reads_265 : decode cX12_reads 265 = .ok (.ifCond .eq 8, 3) := dk_get dk_d03_379 13 rfl
theorem dX12_reads_268 : decode cX12_reads 268 = .ok (.aload_n 0, 1) := dk_get dk_d03_379 14 rfl
theorem dX12_reads_269 : decode cX12_reads 269 = .ok (.iconst 4, 1) := dk_get dk_d03_379 15 rfl
theorem dX12_reads_270 : decode cX12_reads 270 = .ok (.putfield 183, 3) := dk_get dk_d03_379 16 rfl
theorem dX12_reads_273 : decode cX12_reads 273 = .ok (.return_, 1) := dk_get dk_d03_379 17 rfl
theorem dk_d03_380 : dkc cX12_errs [(0, .aload_n 0, 1), (1, .iload_n 1, 1), (2, .putfield 202, 3), (5, .aload_n 0, 1), (6, .aload_n 0, 1), (7, .getfield 180, 3), (10, .putfield 205, 3), (13, .iconst (-1), 1), (14, .ireturn, 1)] = true := by decide +kernel
theorem dX12_errs_0 : decode cX12_errs 0 = .ok (.aload_n 0, 1) := dk_get dk_d03_380 0 rfl
theorem dX12_errs_1 : decode cX12_errs 1 = .ok (.iload_n 1, 1) := dk_get dk_d03_380 1 rfl
theorem dX12_errs_2 : decode cX12_errs 2 = .ok (.putfield 202, 3) := dk_get dk_d03_380 2 rfl
theorem dX12_errs_5 : decode cX12_errs 5 = .ok (.aload_n 0, 1) := dk_get dk_d03_380 3 rfl
theorem dX12_errs_6 : decode cX12_errs 6 = .ok (.aload_n 0, 1) := dk_get dk_d03_380 4 rfl
theorem dX12_errs_7 : decode cX12_errs 7 = .ok (.getfield 180, 3) := dk_get dk_d03_380 5 rfl
theorem dX12_errs_10 : decode cX12_errs 10 = .ok (.putfield 205, 3) := dk_get dk_d03_380 6 rfl
theorem dX12_errs_13 : decode cX12_errs 13 = .ok (.iconst (-1), 1) := dk_get dk_d03_380 7 rfl
theorem dX12_errs_14 : decode cX12_errs 14 = .ok (.ireturn, 1) := dk_get dk_d03_380 8 rfl
theorem dk_d03_381 : dkc cX12_isWord [(0, .aload_n 0, 1), (1, .getfield 183, 3), (4, .iconst 2, 1), (5, .if_icmp .ne 15, 3), (8, .aload_n 0, 1), (9, .getfield 186, 3), (12, .iload_n 1, 1), (13, .if_icmp .ne 7, 3), (16, .iconst 1, 1), (17, .goto 4, 3), (20, .iconst 0, 1), (21, .ireturn, 1)] = true := by decide +kernel
theorem dX12_isWord_0 : decode cX12_isWord 0 = .ok (.aload_n 0, 1) := dk_get dk_d03_381 0 rfl
theorem dX12_isWord_1 : decode cX12_isWord 1 = .ok (.getfield 183, 3) := dk_get dk_d03_381 1 rfl
theorem dX12_isWord_4 : decode cX12_isWord 4 = .ok (.iconst 2, 1) := dk_get dk_d03_381 2 rfl
theorem dX12_isWord_5 : decode cX12_isWord 5 = .ok (.if_icmp .ne 15, 3) := dk_get dk_d03_381 3 rfl
theorem dX12_isWord_8 : decode cX12_isWord 8 = .ok (.aload_n 0, 1) := dk_get dk_d03_381 4 rfl
theorem dX12_isWord_9 : decode cX12_isWord 9 = .ok (.getfield 186, 3) := dk_get dk_d03_381 5 rfl
theorem dX12_isWord_12 : decode cX12_isWord 12 = .ok (.iload_n 1, 1) := dk_get dk_d03_381 6 rfl
theorem dX12_isWord_13 : decode cX12_isWord 13 = .ok (.if_icmp .ne 7, 3) := dk_get dk_d03_381 7 rfl
theorem dX12_isWord_16 : decode cX12_isWord 16 = .ok (.iconst 1, 1) := dk_get dk_d03_381 8 rfl
theorem dX12_isWord_17 : decode cX12_isWord 17 = .ok (.goto 4, 3) := dk_get dk_d03_381 9 rfl
theorem dX12_isWord_20 : decode cX12_isWord 20 = .ok (.iconst 0, 1) := dk_get dk_d03_381 10 rfl
theorem dX12_isWord_21 : decode cX12_isWord 21 = .ok (.ireturn, 1) := dk_get dk_d03_381 11 rfl
theorem dk_d03_382 : dkc cX12_isSign [(0, .aload_n 0, 1), (1, .getfield 183, 3), (4, .iconst 4, 1), (5, .if_icmp .ne 15, 3), (8, .aload_n 0, 1), (9, .getfield 186, 3), (12, .iload_n 1, 1), (13, .if_icmp .ne 7, 3), (16, .iconst 1, 1), (17, .goto 4, 3), (20, .iconst 0, 1), (21, .ireturn, 1)] = true := by decide +kernel
theorem dX12_isSign_0 : decode cX12_isSign 0 = .ok (.aload_n 0, 1) := dk_get dk_d03_382 0 rfl
theorem dX12_isSign_1 : decode cX12_isSign 1 = .ok (.getfield 183, 3) := dk_get dk_d03_382 1 rfl
theorem dX12_isSign_4 : decode cX12_isSign 4 = .ok (.iconst 4, 1) := dk_get dk_d03_382 2 rfl
theorem dX12_isSign_5 : decode cX12_isSign 5 = .ok (.if_icmp .ne 15, 3) := dk_get dk_d03_382 3 rfl
theorem dX12_isSign_8 : decode cX12_isSign 8 = .ok (.aload_n 0, 1) := dk_get dk_d03_382 4 rfl
theorem dX12_isSign_9 : decode cX12_isSign 9 = .ok (.getfield 186, 3) := dk_get dk_d03_382 5 rfl
theorem dX12_isSign_12 : decode cX12_isSign 12 = .ok (.iload_n 1, 1) := dk_get dk_d03_382 6 rfl
theorem dX12_isSign_13 : decode cX12_isSign 13 = .ok (.if_icmp .ne 7, 3) := dk_get dk_d03_382 7 rfl
theorem dX12_isSign_16 : decode cX12_isSign 16 = .ok (.iconst 1, 1) := dk_get dk_d03_382 8 rfl
theorem dX12_isSign_17 : decode cX12_isSign 17 = .ok (.goto 4, 3) := dk_get dk_d03_382 9 rfl
theorem dX12_isSign_20 : decode cX12_isSign 20 = .ok (.iconst 0, 1) := dk_get dk_d03_382 10 rfl
theorem dX12_isSign_21 : decode cX12_isSign 21 = .ok (.ireturn, 1) := dk_get dk_d03_382 11 rfl
theorem dk_d03_383 : dkc cX12_emits [(0, .aload_n 0, 1), (1, .getfield 52, 3), (4, .sipush 800, 3), (7, .aload_n 0, 1), (8, .getfield 208, 3), (11, .iadd, 1), (12, .iload_n 1, 1), (13, .iastore, 1), (14, .aload_n 0, 1), (15, .getfield 55, 3), (18, .sipush 800, 3), (21, .aload_n 0, 1), (22, .getfield 208, 3), (25, .iadd, 1), (26, .iload_n 2, 1), (27, .iastore, 1), (28, .aload_n 0, 1), (29, .aload_n 0, 1), (30, .getfield 208, 3), (33, .iconst 1, 1), (34, .iadd, 1), (35, .putfield 208, 3), (38, .return_, 1)] = true := by decide +kernel
theorem dX12_emits_0 : decode cX12_emits 0 = .ok (.aload_n 0, 1) := dk_get dk_d03_383 0 rfl
theorem dX12_emits_1 : decode cX12_emits 1 = .ok (.getfield 52, 3) := dk_get dk_d03_383 1 rfl
theorem dX12_emits_4 : decode cX12_emits 4 = .ok (.sipush 800, 3) := dk_get dk_d03_383 2 rfl
theorem dX12_emits_7 : decode cX12_emits 7 = .ok (.aload_n 0, 1) := dk_get dk_d03_383 3 rfl
theorem dX12_emits_8 : decode cX12_emits 8 = .ok (.getfield 208, 3) := dk_get dk_d03_383 4 rfl
theorem dX12_emits_11 : decode cX12_emits 11 = .ok (.iadd, 1) := dk_get dk_d03_383 5 rfl
theorem dX12_emits_12 : decode cX12_emits 12 = .ok (.iload_n 1, 1) := dk_get dk_d03_383 6 rfl
theorem dX12_emits_13 : decode cX12_emits 13 = .ok (.iastore, 1) := dk_get dk_d03_383 7 rfl
theorem dX12_emits_14 : decode cX12_emits 14 = .ok (.aload_n 0, 1) := dk_get dk_d03_383 8 rfl
theorem dX12_emits_15 : decode cX12_emits 15 = .ok (.getfield 55, 3) := dk_get dk_d03_383 9 rfl
theorem dX12_emits_18 : decode cX12_emits 18 = .ok (.sipush 800, 3) := dk_get dk_d03_383 10 rfl
theorem dX12_emits_21 : decode cX12_emits 21 = .ok (.aload_n 0, 1) := dk_get dk_d03_383 11 rfl
theorem dX12_emits_22 : decode cX12_emits 22 = .ok (.getfield 208, 3) := dk_get dk_d03_383 12 rfl
theorem dX12_emits_25 : decode cX12_emits 25 = .ok (.iadd, 1) := dk_get dk_d03_383 13 rfl
theorem dX12_emits_26 : decode cX12_emits 26 = .ok (.iload_n 2, 1) := dk_get dk_d03_383 14 rfl
theorem dX12_emits_27 : decode cX12_emits 27 = .ok (.iastore, 1) := dk_get dk_d03_383 15 rfl
theorem dX12_emits_28 : decode cX12_emits 28 = .ok (.aload_n 0, 1) := dk_get dk_d03_383 16 rfl
theorem dX12_emits_29 : decode cX12_emits 29 = .ok (.aload_n 0, 1) := dk_get dk_d03_383 17 rfl
theorem dX12_emits_30 : decode cX12_emits 30 = .ok (.getfield 208, 3) := dk_get dk_d03_383 18 rfl
theorem dX12_emits_33 : decode cX12_emits 33 = .ok (.iconst 1, 1) := dk_get dk_d03_383 19 rfl
theorem dX12_emits_34 : decode cX12_emits 34 = .ok (.iadd, 1) := dk_get dk_d03_383 20 rfl
theorem dX12_emits_35 : decode cX12_emits 35 = .ok (.putfield 208, 3) := dk_get dk_d03_383 21 rfl
theorem dX12_emits_38 : decode cX12_emits 38 = .ok (.return_, 1) := dk_get dk_d03_383 22 rfl
theorem dk_d03_384 : dkc cX12_canAsk [(0, .aload_n 0, 1), (1, .iload_n 1, 1), (2, .bipush 7, 2), (4, .bipush 16, 2), (6, .invokevirtual 155, 3), (9, .ireturn, 1)] = true := by decide +kernel
theorem dX12_canAsk_0 : decode cX12_canAsk 0 = .ok (.aload_n 0, 1) := dk_get dk_d03_384 0 rfl
theorem dX12_canAsk_1 : decode cX12_canAsk 1 = .ok (.iload_n 1, 1) := dk_get dk_d03_384 1 rfl
theorem dX12_canAsk_2 : decode cX12_canAsk 2 = .ok (.bipush 7, 2) := dk_get dk_d03_384 2 rfl
theorem dX12_canAsk_4 : decode cX12_canAsk 4 = .ok (.bipush 16, 2) := dk_get dk_d03_384 3 rfl
theorem dX12_canAsk_6 : decode cX12_canAsk 6 = .ok (.invokevirtual 155, 3) := dk_get dk_d03_384 4 rfl
theorem dX12_canAsk_9 : decode cX12_canAsk 9 = .ok (.ireturn, 1) := dk_get dk_d03_384 5 rfl
theorem dk_d03_385 : dkc cX12_readUnit [(0, .aload_n 0, 1), (1, .getfield 183, 3), (4, .iconst 2, 1), (5, .if_icmp .ne 18, 3), (8, .aload_n 0, 1), (9, .aload_n 0, 1), (10, .getfield 186, 3), (13, .invokevirtual 211, 3), (16, .ifCond .eq 7, 3), (19, .iconst 1, 1), (20, .goto 4, 3), (23, .iconst 0, 1), (24, .istore_n 1, 1), (25, .iload_n 1, 1), (26, .ifCond .ne 17, 3), (29, .aload_n 0, 1), (30, .getfield 183, 3), (33, .iconst 3, 1), (34, .if_icmp .eq 9, 3), (37, .aload_n 0, 1), (38, .iconst 1, 1), (39, .invokevirtual 214, 3), (42, .ireturn, 1), (43, .aload_n 0, 1), (44, .iload_n 1, 1)] = true := by decide +kernel
theorem dX12_readUnit_0 : decode cX12_readUnit 0 = .ok (.aload_n 0, 1) := dk_get dk_d03_385 0 rfl
theorem dX12_readUnit_1 : decode cX12_readUnit 1 = .ok (.getfield 183, 3) := dk_get dk_d03_385 1 rfl
theorem dX12_readUnit_4 : decode cX12_readUnit 4 = .ok (.iconst 2, 1) := dk_get dk_d03_385 2 rfl
theorem dX12_readUnit_5 : decode cX12_readUnit 5 = .ok (.if_icmp .ne 18, 3) := dk_get dk_d03_385 3 rfl
theorem dX12_readUnit_8 : decode cX12_readUnit 8 = .ok (.aload_n 0, 1) := dk_get dk_d03_385 4 rfl
theorem dX12_readUnit_9 : decode cX12_readUnit 9 = .ok (.aload_n 0, 1) := dk_get dk_d03_385 5 rfl
theorem dX12_readUnit_10 : decode cX12_readUnit 10 = .ok (.getfield 186, 3) := dk_get dk_d03_385 6 rfl
theorem dX12_readUnit_13 : decode cX12_readUnit 13 = .ok (.invokevirtual 211, 3) := dk_get dk_d03_385 7 rfl
theorem dX12_readUnit_16 : decode cX12_readUnit 16 = .ok (.ifCond .eq 7, 3) := dk_get dk_d03_385 8 rfl
theorem dX12_readUnit_19 : decode cX12_readUnit 19 = .ok (.iconst 1, 1) := dk_get dk_d03_385 9 rfl
theorem dX12_readUnit_20 : decode cX12_readUnit 20 = .ok (.goto 4, 3) := dk_get dk_d03_385 10 rfl
theorem dX12_readUnit_23 : decode cX12_readUnit 23 = .ok (.iconst 0, 1) := dk_get dk_d03_385 11 rfl
theorem dX12_readUnit_24 : decode cX12_readUnit 24 = .ok (.istore_n 1, 1) := dk_get dk_d03_385 12 rfl
theorem dX12_readUnit_25 : decode cX12_readUnit 25 = .ok (.iload_n 1, 1) := dk_get dk_d03_385 13 rfl
theorem dX12_readUnit_26 : decode cX12_readUnit 26 = .ok (.ifCond .ne 17, 3) := dk_get dk_d03_385 14 rfl
theorem dX12_readUnit_29 : decode cX12_readUnit 29 = .ok (.aload_n 0, 1) := dk_get dk_d03_385 15 rfl
theorem dX12_readUnit_30 : decode cX12_readUnit 30 = .ok (.getfield 183, 3) := dk_get dk_d03_385 16 rfl
theorem dX12_readUnit_33 : decode cX12_readUnit 33 = .ok (.iconst 3, 1) := dk_get dk_d03_385 17 rfl
theorem dX12_readUnit_34 : decode cX12_readUnit 34 = .ok (.if_icmp .eq 9, 3) := dk_get dk_d03_385 18 rfl
theorem dX12_readUnit_37 : decode cX12_readUnit 37 = .ok (.aload_n 0, 1) := dk_get dk_d03_385 19 rfl
theorem dX12_readUnit_38 : decode cX12_readUnit 38 = .ok (.iconst 1, 1) := dk_get dk_d03_385 20 rfl
theorem dX12_readUnit_39 : decode cX12_readUnit 39 = .ok (.invokevirtual 214, 3) := dk_get dk_d03_385 21 rfl
theorem dX12_readUnit_42 : decode cX12_readUnit 42 = .ok (.ireturn, 1) := dk_get dk_d03_385 22 rfl
theorem dX12_readUnit_43 : decode cX12_readUnit 43 = .ok (.aload_n 0, 1) := dk_get dk_d03_385 23 rfl
theorem dX12_readUnit_44 : decode cX12_readUnit 44 = .ok (.iload_n 1, 1) := dk_get dk_d03_385 24 rfl
theorem dk_d03_386 : dkc cX12_readUnit [(45, .ifCond .eq 7, 3), (48, .iconst 1, 1), (49, .goto 4, 3), (52, .iconst 0, 1), (53, .iload_n 1, 1), (54, .ifCond .eq 13, 3), (57, .aload_n 0, 1), (58, .getfield 186, 3), (61, .bipush 7, 2), (63, .isub, 1), (64, .goto 7, 3), (67, .aload_n 0, 1), (68, .getfield 186, 3), (71, .invokevirtual 217, 3), (74, .aload_n 0, 1), (75, .invokevirtual 221, 3), (78, .iconst 0, 1), (79, .ireturn, 1)] = true := by decide +kernel
theorem dX12_readUnit_45 : decode cX12_readUnit 45 = .ok (.ifCond .eq 7, 3) := dk_get dk_d03_386 0 rfl
theorem dX12_readUnit_48 : decode cX12_readUnit 48 = .ok (.iconst 1, 1) := dk_get dk_d03_386 1 rfl
theorem dX12_readUnit_49 : decode cX12_readUnit 49 = .ok (.goto 4, 3) := dk_get dk_d03_386 2 rfl
theorem dX12_readUnit_52 : decode cX12_readUnit 52 = .ok (.iconst 0, 1) := dk_get dk_d03_386 3 rfl
theorem dX12_readUnit_53 : decode cX12_readUnit 53 = .ok (.iload_n 1, 1) := dk_get dk_d03_386 4 rfl
theorem dX12_readUnit_54 : decode cX12_readUnit 54 = .ok (.ifCond .eq 13, 3) := dk_get dk_d03_386 5 rfl
theorem dX12_readUnit_57 : decode cX12_readUnit 57 = .ok (.aload_n 0, 1) := dk_get dk_d03_386 6 rfl
theorem dX12_readUnit_58 : decode cX12_readUnit 58 = .ok (.getfield 186, 3) := dk_get dk_d03_386 7 rfl
theorem dX12_readUnit_61 : decode cX12_readUnit 61 = .ok (.bipush 7, 2) := dk_get dk_d03_386 8 rfl
theorem dX12_readUnit_63 : decode cX12_readUnit 63 = .ok (.isub, 1) := dk_get dk_d03_386 9 rfl
theorem dX12_readUnit_64 : decode cX12_readUnit 64 = .ok (.goto 7, 3) := dk_get dk_d03_386 10 rfl
theorem dX12_readUnit_67 : decode cX12_readUnit 67 = .ok (.aload_n 0, 1) := dk_get dk_d03_386 11 rfl
theorem dX12_readUnit_68 : decode cX12_readUnit 68 = .ok (.getfield 186, 3) := dk_get dk_d03_386 12 rfl
theorem dX12_readUnit_71 : decode cX12_readUnit 71 = .ok (.invokevirtual 217, 3) := dk_get dk_d03_386 13 rfl
theorem dX12_readUnit_74 : decode cX12_readUnit 74 = .ok (.aload_n 0, 1) := dk_get dk_d03_386 14 rfl
theorem dX12_readUnit_75 : decode cX12_readUnit 75 = .ok (.invokevirtual 221, 3) := dk_get dk_d03_386 15 rfl
theorem dX12_readUnit_78 : decode cX12_readUnit 78 = .ok (.iconst 0, 1) := dk_get dk_d03_386 16 rfl
theorem dX12_readUnit_79 : decode cX12_readUnit 79 = .ok (.ireturn, 1) := dk_get dk_d03_386 17 rfl
theorem dk_d03_387 : dkc cX12_readProduct [(0, .aload_n 0, 1), (1, .invokevirtual 224, 3), (4, .iconst (-1), 1), (5, .if_icmp .ne 5, 3), (8, .iconst (-1), 1), (9, .ireturn, 1), (10, .aload_n 0, 1), (11, .bipush 42, 2), (13, .invokevirtual 228, 3), (16, .ifCond .ne 12, 3), (19, .aload_n 0, 1), (20, .bipush 47, 2), (22, .invokevirtual 228, 3), (25, .ifCond .eq 76, 3), (28, .aload_n 0, 1), (29, .bipush 42, 2), (31, .invokevirtual 228, 3), (34, .istore_n 1, 1), (35, .aload_n 0, 1), (36, .invokevirtual 221, 3), (39, .iload_n 1, 1), (40, .ifCond .ne 17, 3), (43, .aload_n 0, 1), (44, .getfield 183, 3), (47, .iconst 3, 1)] = true := by decide +kernel
theorem dX12_readProduct_0 : decode cX12_readProduct 0 = .ok (.aload_n 0, 1) := dk_get dk_d03_387 0 rfl
theorem dX12_readProduct_1 : decode cX12_readProduct 1 = .ok (.invokevirtual 224, 3) := dk_get dk_d03_387 1 rfl
theorem dX12_readProduct_4 : decode cX12_readProduct 4 = .ok (.iconst (-1), 1) := dk_get dk_d03_387 2 rfl
theorem dX12_readProduct_5 : decode cX12_readProduct 5 = .ok (.if_icmp .ne 5, 3) := dk_get dk_d03_387 3 rfl
theorem dX12_readProduct_8 : decode cX12_readProduct 8 = .ok (.iconst (-1), 1) := dk_get dk_d03_387 4 rfl
theorem dX12_readProduct_9 : decode cX12_readProduct 9 = .ok (.ireturn, 1) := dk_get dk_d03_387 5 rfl
theorem dX12_readProduct_10 : decode cX12_readProduct 10 = .ok (.aload_n 0, 1) := dk_get dk_d03_387 6 rfl
theorem dX12_readProduct_11 : decode cX12_readProduct 11 = .ok (.bipush 42, 2) := dk_get dk_d03_387 7 rfl
theorem dX12_readProduct_13 : decode cX12_readProduct 13 = .ok (.invokevirtual 228, 3) := dk_get dk_d03_387 8 rfl
theorem dX12_readProduct_16 : decode cX12_readProduct 16 = .ok (.ifCond .ne 12, 3) := dk_get dk_d03_387 9 rfl
theorem dX12_readProduct_19 : decode cX12_readProduct 19 = .ok (.aload_n 0, 1) := dk_get dk_d03_387 10 rfl
theorem dX12_readProduct_20 : decode cX12_readProduct 20 = .ok (.bipush 47, 2) := dk_get dk_d03_387 11 rfl
theorem dX12_readProduct_22 : decode cX12_readProduct 22 = .ok (.invokevirtual 228, 3) := dk_get dk_d03_387 12 rfl
theorem dX12_readProduct_25 : decode cX12_readProduct 25 = .ok (.ifCond .eq 76, 3) := dk_get dk_d03_387 13 rfl
theorem dX12_readProduct_28 : decode cX12_readProduct 28 = .ok (.aload_n 0, 1) := dk_get dk_d03_387 14 rfl
theorem dX12_readProduct_29 : decode cX12_readProduct 29 = .ok (.bipush 42, 2) := dk_get dk_d03_387 15 rfl
theorem dX12_readProduct_31 : decode cX12_readProduct 31 = .ok (.invokevirtual 228, 3) := dk_get dk_d03_387 16 rfl
theorem dX12_readProduct_34 : decode cX12_readProduct 34 = .ok (.istore_n 1, 1) := dk_get dk_d03_387 17 rfl
theorem dX12_readProduct_35 : decode cX12_readProduct 35 = .ok (.aload_n 0, 1) := dk_get dk_d03_387 18 rfl
theorem dX12_readProduct_36 : decode cX12_readProduct 36 = .ok (.invokevirtual 221, 3) := dk_get dk_d03_387 19 rfl
theorem dX12_readProduct_39 : decode cX12_readProduct 39 = .ok (.iload_n 1, 1) := dk_get dk_d03_387 20 rfl
theorem dX12_readProduct_40 : decode cX12_readProduct 40 = .ok (.ifCond .ne 17, 3) := dk_get dk_d03_387 21 rfl
theorem dX12_readProduct_43 : decode cX12_readProduct 43 = .ok (.aload_n 0, 1) := dk_get dk_d03_387 22 rfl
theorem dX12_readProduct_44 : decode cX12_readProduct 44 = .ok (.getfield 183, 3) := dk_get dk_d03_387 23 rfl
theorem dX12_readProduct_47 : decode cX12_readProduct 47 = .ok (.iconst 3, 1) := dk_get dk_d03_387 24 rfl
theorem dk_d03_388 : dkc cX12_readProduct [(48, .if_icmp .eq 9, 3), (51, .aload_n 0, 1), (52, .iconst 1, 1), (53, .invokevirtual 214, 3), (56, .ireturn, 1), (57, .iload_n 1, 1), (58, .ifCond .ne 16, 3), (61, .aload_n 0, 1), (62, .getfield 186, 3), (65, .ifCond .ne 9, 3), (68, .aload_n 0, 1), (69, .iconst 2, 1), (70, .invokevirtual 214, 3), (73, .ireturn, 1), (74, .aload_n 0, 1), (75, .invokevirtual 224, 3), (78, .iconst (-1), 1), (79, .if_icmp .ne 5, 3), (82, .iconst (-1), 1), (83, .ireturn, 1), (84, .aload_n 0, 1), (85, .iload_n 1, 1), (86, .ifCond .eq 7, 3), (89, .iconst 4, 1), (90, .goto 4, 3)] = true := by decide +kernel
theorem dX12_readProduct_48 : decode cX12_readProduct 48 = .ok (.if_icmp .eq 9, 3) := dk_get dk_d03_388 0 rfl
theorem dX12_readProduct_51 : decode cX12_readProduct 51 = .ok (.aload_n 0, 1) := dk_get dk_d03_388 1 rfl
theorem dX12_readProduct_52 : decode cX12_readProduct 52 = .ok (.iconst 1, 1) := dk_get dk_d03_388 2 rfl
theorem dX12_readProduct_53 : decode cX12_readProduct 53 = .ok (.invokevirtual 214, 3) := dk_get dk_d03_388 3 rfl
theorem dX12_readProduct_56 : decode cX12_readProduct 56 = .ok (.ireturn, 1) := dk_get dk_d03_388 4 rfl
theorem dX12_readProduct_57 : decode cX12_readProduct 57 = .ok (.iload_n 1, 1) := dk_get dk_d03_388 5 rfl
theorem dX12_readProduct_58 : decode cX12_readProduct 58 = .ok (.ifCond .ne 16, 3) := dk_get dk_d03_388 6 rfl
theorem dX12_readProduct_61 : decode cX12_readProduct 61 = .ok (.aload_n 0, 1) := dk_get dk_d03_388 7 rfl
theorem dX12_readProduct_62 : decode cX12_readProduct 62 = .ok (.getfield 186, 3) := dk_get dk_d03_388 8 rfl
theorem dX12_readProduct_65 : decode cX12_readProduct 65 = .ok (.ifCond .ne 9, 3) := dk_get dk_d03_388 9 rfl
theorem dX12_readProduct_68 : decode cX12_readProduct 68 = .ok (.aload_n 0, 1) := dk_get dk_d03_388 10 rfl
theorem dX12_readProduct_69 : decode cX12_readProduct 69 = .ok (.iconst 2, 1) := dk_get dk_d03_388 11 rfl
theorem dX12_readProduct_70 : decode cX12_readProduct 70 = .ok (.invokevirtual 214, 3) := dk_get dk_d03_388 12 rfl
theorem dX12_readProduct_73 : decode cX12_readProduct 73 = .ok (.ireturn, 1) := dk_get dk_d03_388 13 rfl
theorem dX12_readProduct_74 : decode cX12_readProduct 74 = .ok (.aload_n 0, 1) := dk_get dk_d03_388 14 rfl
theorem dX12_readProduct_75 : decode cX12_readProduct 75 = .ok (.invokevirtual 224, 3) := dk_get dk_d03_388 15 rfl
theorem dX12_readProduct_78 : decode cX12_readProduct 78 = .ok (.iconst (-1), 1) := dk_get dk_d03_388 16 rfl
theorem dX12_readProduct_79 : decode cX12_readProduct 79 = .ok (.if_icmp .ne 5, 3) := dk_get dk_d03_388 17 rfl
theorem dX12_readProduct_82 : decode cX12_readProduct 82 = .ok (.iconst (-1), 1) := dk_get dk_d03_388 18 rfl
theorem dX12_readProduct_83 : decode cX12_readProduct 83 = .ok (.ireturn, 1) := dk_get dk_d03_388 19 rfl
theorem dX12_readProduct_84 : decode cX12_readProduct 84 = .ok (.aload_n 0, 1) := dk_get dk_d03_388 20 rfl
theorem dX12_readProduct_85 : decode cX12_readProduct 85 = .ok (.iload_n 1, 1) := dk_get dk_d03_388 21 rfl
theorem dX12_readProduct_86 : decode cX12_readProduct 86 = .ok (.ifCond .eq 7, 3) := dk_get dk_d03_388 22 rfl
theorem dX12_readProduct_89 : decode cX12_readProduct 89 = .ok (.iconst 4, 1) := dk_get dk_d03_388 23 rfl
theorem dX12_readProduct_90 : decode cX12_readProduct 90 = .ok (.goto 4, 3) := dk_get dk_d03_388 24 rfl
theorem dk_d03_389 : dkc cX12_readProduct [(93, .iconst 5, 1), (94, .iconst 0, 1), (95, .invokevirtual 217, 3), (98, .goto (-88), 3), (101, .iconst 0, 1), (102, .ireturn, 1)] = true := by decide +kernel
theorem dX12_readProduct_93 : decode cX12_readProduct 93 = .ok (.iconst 5, 1) := dk_get dk_d03_389 0 rfl
theorem dX12_readProduct_94 : decode cX12_readProduct 94 = .ok (.iconst 0, 1) := dk_get dk_d03_389 1 rfl
theorem dX12_readProduct_95 : decode cX12_readProduct 95 = .ok (.invokevirtual 217, 3) := dk_get dk_d03_389 2 rfl
theorem dX12_readProduct_98 : decode cX12_readProduct 98 = .ok (.goto (-88), 3) := dk_get dk_d03_389 3 rfl
theorem dX12_readProduct_101 : decode cX12_readProduct 101 = .ok (.iconst 0, 1) := dk_get dk_d03_389 4 rfl
theorem dX12_readProduct_102 : decode cX12_readProduct 102 = .ok (.ireturn, 1) := dk_get dk_d03_389 5 rfl
theorem dk_d03_390 : dkc cX12_readSum [(0, .aload_n 0, 1), (1, .invokevirtual 231, 3), (4, .iconst (-1), 1), (5, .if_icmp .ne 5, 3), (8, .iconst (-1), 1), (9, .ireturn, 1), (10, .aload_n 0, 1), (11, .bipush 43, 2), (13, .invokevirtual 228, 3), (16, .ifCond .ne 12, 3), (19, .aload_n 0, 1), (20, .bipush 45, 2), (22, .invokevirtual 228, 3), (25, .ifCond .eq 41, 3), (28, .aload_n 0, 1), (29, .getfield 186, 3), (32, .bipush 43, 2), (34, .if_icmp .ne 7, 3), (37, .iconst 2, 1), (38, .goto 4, 3), (41, .iconst 3, 1), (42, .istore_n 1, 1), (43, .aload_n 0, 1), (44, .invokevirtual 221, 3), (47, .aload_n 0, 1)] = true := by decide +kernel
theorem dX12_readSum_0 : decode cX12_readSum 0 = .ok (.aload_n 0, 1) := dk_get dk_d03_390 0 rfl
theorem dX12_readSum_1 : decode cX12_readSum 1 = .ok (.invokevirtual 231, 3) := dk_get dk_d03_390 1 rfl
theorem dX12_readSum_4 : decode cX12_readSum 4 = .ok (.iconst (-1), 1) := dk_get dk_d03_390 2 rfl
theorem dX12_readSum_5 : decode cX12_readSum 5 = .ok (.if_icmp .ne 5, 3) := dk_get dk_d03_390 3 rfl
theorem dX12_readSum_8 : decode cX12_readSum 8 = .ok (.iconst (-1), 1) := dk_get dk_d03_390 4 rfl
theorem dX12_readSum_9 : decode cX12_readSum 9 = .ok (.ireturn, 1) := dk_get dk_d03_390 5 rfl
theorem dX12_readSum_10 : decode cX12_readSum 10 = .ok (.aload_n 0, 1) := dk_get dk_d03_390 6 rfl
theorem dX12_readSum_11 : decode cX12_readSum 11 = .ok (.bipush 43, 2) := dk_get dk_d03_390 7 rfl
theorem dX12_readSum_13 : decode cX12_readSum 13 = .ok (.invokevirtual 228, 3) := dk_get dk_d03_390 8 rfl
theorem dX12_readSum_16 : decode cX12_readSum 16 = .ok (.ifCond .ne 12, 3) := dk_get dk_d03_390 9 rfl
theorem dX12_readSum_19 : decode cX12_readSum 19 = .ok (.aload_n 0, 1) := dk_get dk_d03_390 10 rfl
theorem dX12_readSum_20 : decode cX12_readSum 20 = .ok (.bipush 45, 2) := dk_get dk_d03_390 11 rfl
theorem dX12_readSum_22 : decode cX12_readSum 22 = .ok (.invokevirtual 228, 3) := dk_get dk_d03_390 12 rfl
theorem dX12_readSum_25 : decode cX12_readSum 25 = .ok (.ifCond .eq 41, 3) := dk_get dk_d03_390 13 rfl
theorem dX12_readSum_28 : decode cX12_readSum 28 = .ok (.aload_n 0, 1) := dk_get dk_d03_390 14 rfl
theorem dX12_readSum_29 : decode cX12_readSum 29 = .ok (.getfield 186, 3) := dk_get dk_d03_390 15 rfl
theorem dX12_readSum_32 : decode cX12_readSum 32 = .ok (.bipush 43, 2) := dk_get dk_d03_390 16 rfl
theorem dX12_readSum_34 : decode cX12_readSum 34 = .ok (.if_icmp .ne 7, 3) := dk_get dk_d03_390 17 rfl
theorem dX12_readSum_37 : decode cX12_readSum 37 = .ok (.iconst 2, 1) := dk_get dk_d03_390 18 rfl
theorem dX12_readSum_38 : decode cX12_readSum 38 = .ok (.goto 4, 3) := dk_get dk_d03_390 19 rfl
theorem dX12_readSum_41 : decode cX12_readSum 41 = .ok (.iconst 3, 1) := dk_get dk_d03_390 20 rfl
theorem dX12_readSum_42 : decode cX12_readSum 42 = .ok (.istore_n 1, 1) := dk_get dk_d03_390 21 rfl
theorem dX12_readSum_43 : decode cX12_readSum 43 = .ok (.aload_n 0, 1) := dk_get dk_d03_390 22 rfl
theorem dX12_readSum_44 : decode cX12_readSum 44 = .ok (.invokevirtual 221, 3) := dk_get dk_d03_390 23 rfl
theorem dX12_readSum_47 : decode cX12_readSum 47 = .ok (.aload_n 0, 1) := dk_get dk_d03_390 24 rfl
theorem dk_d03_391 : dkc cX12_readSum [(48, .invokevirtual 231, 3), (51, .iconst (-1), 1), (52, .if_icmp .ne 5, 3), (55, .iconst (-1), 1), (56, .ireturn, 1), (57, .aload_n 0, 1), (58, .iload_n 1, 1), (59, .iconst 0, 1), (60, .invokevirtual 217, 3), (63, .goto (-53), 3), (66, .iconst 0, 1), (67, .ireturn, 1)] = true := by decide +kernel
theorem dX12_readSum_48 : decode cX12_readSum 48 = .ok (.invokevirtual 231, 3) := dk_get dk_d03_391 0 rfl
theorem dX12_readSum_51 : decode cX12_readSum 51 = .ok (.iconst (-1), 1) := dk_get dk_d03_391 1 rfl
theorem dX12_readSum_52 : decode cX12_readSum 52 = .ok (.if_icmp .ne 5, 3) := dk_get dk_d03_391 2 rfl
theorem dX12_readSum_55 : decode cX12_readSum 55 = .ok (.iconst (-1), 1) := dk_get dk_d03_391 3 rfl
theorem dX12_readSum_56 : decode cX12_readSum 56 = .ok (.ireturn, 1) := dk_get dk_d03_391 4 rfl
theorem dX12_readSum_57 : decode cX12_readSum 57 = .ok (.aload_n 0, 1) := dk_get dk_d03_391 5 rfl
theorem dX12_readSum_58 : decode cX12_readSum 58 = .ok (.iload_n 1, 1) := dk_get dk_d03_391 6 rfl
theorem dX12_readSum_59 : decode cX12_readSum 59 = .ok (.iconst 0, 1) := dk_get dk_d03_391 7 rfl
theorem dX12_readSum_60 : decode cX12_readSum 60 = .ok (.invokevirtual 217, 3) := dk_get dk_d03_391 8 rfl
theorem dX12_readSum_63 : decode cX12_readSum 63 = .ok (.goto (-53), 3) := dk_get dk_d03_391 9 rfl
theorem dX12_readSum_66 : decode cX12_readSum 66 = .ok (.iconst 0, 1) := dk_get dk_d03_391 10 rfl
theorem dX12_readSum_67 : decode cX12_readSum 67 = .ok (.ireturn, 1) := dk_get dk_d03_391 11 rfl
theorem dk_d03_392 : dkc cX12_readCompared [(0, .aload_n 0, 1), (1, .invokevirtual 234, 3), (4, .iconst (-1), 1), (5, .if_icmp .ne 5, 3), (8, .iconst (-1), 1), (9, .ireturn, 1), (10, .aload_n 0, 1), (11, .bipush 60, 2), (13, .invokevirtual 228, 3), (16, .ifCond .ne 27, 3), (19, .aload_n 0, 1), (20, .bipush 61, 2), (22, .invokevirtual 228, 3), (25, .ifCond .ne 18, 3), (28, .aload_n 0, 1), (29, .bipush 62, 2), (31, .invokevirtual 228, 3), (34, .ifCond .ne 9, 3), (37, .aload_n 0, 1), (38, .iconst 1, 1), (39, .invokevirtual 214, 3), (42, .ireturn, 1), (43, .aload_n 0, 1), (44, .getfield 186, 3), (47, .bipush 60, 2)] = true := by decide +kernel
theorem dX12_readCompared_0 : decode cX12_readCompared 0 = .ok (.aload_n 0, 1) := dk_get dk_d03_392 0 rfl
theorem dX12_readCompared_1 : decode cX12_readCompared 1 = .ok (.invokevirtual 234, 3) := dk_get dk_d03_392 1 rfl
theorem dX12_readCompared_4 : decode cX12_readCompared 4 = .ok (.iconst (-1), 1) := dk_get dk_d03_392 2 rfl
theorem dX12_readCompared_5 : decode cX12_readCompared 5 = .ok (.if_icmp .ne 5, 3) := dk_get dk_d03_392 3 rfl
theorem dX12_readCompared_8 : decode cX12_readCompared 8 = .ok (.iconst (-1), 1) := dk_get dk_d03_392 4 rfl
theorem dX12_readCompared_9 : decode cX12_readCompared 9 = .ok (.ireturn, 1) := dk_get dk_d03_392 5 rfl
theorem dX12_readCompared_10 : decode cX12_readCompared 10 = .ok (.aload_n 0, 1) := dk_get dk_d03_392 6 rfl
theorem dX12_readCompared_11 : decode cX12_readCompared 11 = .ok (.bipush 60, 2) := dk_get dk_d03_392 7 rfl
theorem dX12_readCompared_13 : decode cX12_readCompared 13 = .ok (.invokevirtual 228, 3) := dk_get dk_d03_392 8 rfl
theorem dX12_readCompared_16 : decode cX12_readCompared 16 = .ok (.ifCond .ne 27, 3) := dk_get dk_d03_392 9 rfl
theorem dX12_readCompared_19 : decode cX12_readCompared 19 = .ok (.aload_n 0, 1) := dk_get dk_d03_392 10 rfl
theorem dX12_readCompared_20 : decode cX12_readCompared 20 = .ok (.bipush 61, 2) := dk_get dk_d03_392 11 rfl
theorem dX12_readCompared_22 : decode cX12_readCompared 22 = .ok (.invokevirtual 228, 3) := dk_get dk_d03_392 12 rfl
theorem dX12_readCompared_25 : decode cX12_readCompared 25 = .ok (.ifCond .ne 18, 3) := dk_get dk_d03_392 13 rfl
theorem dX12_readCompared_28 : decode cX12_readCompared 28 = .ok (.aload_n 0, 1) := dk_get dk_d03_392 14 rfl
theorem dX12_readCompared_29 : decode cX12_readCompared 29 = .ok (.bipush 62, 2) := dk_get dk_d03_392 15 rfl
theorem dX12_readCompared_31 : decode cX12_readCompared 31 = .ok (.invokevirtual 228, 3) := dk_get dk_d03_392 16 rfl
theorem dX12_readCompared_34 : decode cX12_readCompared 34 = .ok (.ifCond .ne 9, 3) := dk_get dk_d03_392 17 rfl
theorem dX12_readCompared_37 : decode cX12_readCompared 37 = .ok (.aload_n 0, 1) := dk_get dk_d03_392 18 rfl
theorem dX12_readCompared_38 : decode cX12_readCompared 38 = .ok (.iconst 1, 1) := dk_get dk_d03_392 19 rfl
theorem dX12_readCompared_39 : decode cX12_readCompared 39 = .ok (.invokevirtual 214, 3) := dk_get dk_d03_392 20 rfl
theorem dX12_readCompared_42 : decode cX12_readCompared 42 = .ok (.ireturn, 1) := dk_get dk_d03_392 21 rfl
theorem dX12_readCompared_43 : decode cX12_readCompared 43 = .ok (.aload_n 0, 1) := dk_get dk_d03_392 22 rfl
theorem dX12_readCompared_44 : decode cX12_readCompared 44 = .ok (.getfield 186, 3) := dk_get dk_d03_392 23 rfl
theorem dX12_readCompared_47 : decode cX12_readCompared 47 = .ok (.bipush 60, 2) := dk_get dk_d03_392 24 rfl
theorem dk_d03_393 : dkc cX12_readCompared [(49, .if_icmp .ne 8, 3), (52, .bipush 6, 2), (54, .goto 19, 3), (57, .aload_n 0, 1), (58, .getfield 186, 3), (61, .bipush 61, 2), (63, .if_icmp .ne 8, 3), (66, .bipush 7, 2), (68, .goto 5, 3), (71, .bipush 8, 2), (73, .istore_n 1, 1), (74, .aload_n 0, 1), (75, .invokevirtual 221, 3), (78, .aload_n 0, 1), (79, .invokevirtual 234, 3), (82, .iconst (-1), 1), (83, .if_icmp .ne 5, 3), (86, .iconst (-1), 1), (87, .ireturn, 1), (88, .aload_n 0, 1), (89, .iload_n 1, 1), (90, .iconst 0, 1), (91, .invokevirtual 217, 3), (94, .iconst 0, 1), (95, .ireturn, 1)] = true := by decide +kernel
theorem dX12_readCompared_49 : decode cX12_readCompared 49 = .ok (.if_icmp .ne 8, 3) := dk_get dk_d03_393 0 rfl
theorem dX12_readCompared_52 : decode cX12_readCompared 52 = .ok (.bipush 6, 2) := dk_get dk_d03_393 1 rfl
theorem dX12_readCompared_54 : decode cX12_readCompared 54 = .ok (.goto 19, 3) := dk_get dk_d03_393 2 rfl
theorem dX12_readCompared_57 : decode cX12_readCompared 57 = .ok (.aload_n 0, 1) := dk_get dk_d03_393 3 rfl
theorem dX12_readCompared_58 : decode cX12_readCompared 58 = .ok (.getfield 186, 3) := dk_get dk_d03_393 4 rfl
theorem dX12_readCompared_61 : decode cX12_readCompared 61 = .ok (.bipush 61, 2) := dk_get dk_d03_393 5 rfl
theorem dX12_readCompared_63 : decode cX12_readCompared 63 = .ok (.if_icmp .ne 8, 3) := dk_get dk_d03_393 6 rfl
theorem dX12_readCompared_66 : decode cX12_readCompared 66 = .ok (.bipush 7, 2) := dk_get dk_d03_393 7 rfl
theorem dX12_readCompared_68 : decode cX12_readCompared 68 = .ok (.goto 5, 3) := dk_get dk_d03_393 8 rfl
theorem dX12_readCompared_71 : decode cX12_readCompared 71 = .ok (.bipush 8, 2) := dk_get dk_d03_393 9 rfl
theorem dX12_readCompared_73 : decode cX12_readCompared 73 = .ok (.istore_n 1, 1) := dk_get dk_d03_393 10 rfl
theorem dX12_readCompared_74 : decode cX12_readCompared 74 = .ok (.aload_n 0, 1) := dk_get dk_d03_393 11 rfl
theorem dX12_readCompared_75 : decode cX12_readCompared 75 = .ok (.invokevirtual 221, 3) := dk_get dk_d03_393 12 rfl
theorem dX12_readCompared_78 : decode cX12_readCompared 78 = .ok (.aload_n 0, 1) := dk_get dk_d03_393 13 rfl
theorem dX12_readCompared_79 : decode cX12_readCompared 79 = .ok (.invokevirtual 234, 3) := dk_get dk_d03_393 14 rfl
theorem dX12_readCompared_82 : decode cX12_readCompared 82 = .ok (.iconst (-1), 1) := dk_get dk_d03_393 15 rfl
theorem dX12_readCompared_83 : decode cX12_readCompared 83 = .ok (.if_icmp .ne 5, 3) := dk_get dk_d03_393 16 rfl
theorem dX12_readCompared_86 : decode cX12_readCompared 86 = .ok (.iconst (-1), 1) := dk_get dk_d03_393 17 rfl
theorem dX12_readCompared_87 : decode cX12_readCompared 87 = .ok (.ireturn, 1) := dk_get dk_d03_393 18 rfl
theorem dX12_readCompared_88 : decode cX12_readCompared 88 = .ok (.aload_n 0, 1) := dk_get dk_d03_393 19 rfl
theorem dX12_readCompared_89 : decode cX12_readCompared 89 = .ok (.iload_n 1, 1) := dk_get dk_d03_393 20 rfl
theorem dX12_readCompared_90 : decode cX12_readCompared 90 = .ok (.iconst 0, 1) := dk_get dk_d03_393 21 rfl
theorem dX12_readCompared_91 : decode cX12_readCompared 91 = .ok (.invokevirtual 217, 3) := dk_get dk_d03_393 22 rfl
theorem dX12_readCompared_94 : decode cX12_readCompared 94 = .ok (.iconst 0, 1) := dk_get dk_d03_393 23 rfl
theorem dX12_readCompared_95 : decode cX12_readCompared 95 = .ok (.ireturn, 1) := dk_get dk_d03_393 24 rfl
theorem dk_d03_394 : dkc cX12_waits [(0, .aload_n 0, 1), (1, .getfield 58, 3), (4, .aload_n 0, 1), (5, .getfield 237, 3), (8, .iload_n 1, 1), (9, .iastore, 1), (10, .aload_n 0, 1), (11, .aload_n 0, 1), (12, .getfield 237, 3), (15, .iconst 1, 1), (16, .iadd, 1), (17, .putfield 237, 3), (20, .return_, 1)] = true := by decide +kernel
theorem dX12_waits_0 : decode cX12_waits 0 = .ok (.aload_n 0, 1) := dk_get dk_d03_394 0 rfl
theorem dX12_waits_1 : decode cX12_waits 1 = .ok (.getfield 58, 3) := dk_get dk_d03_394 1 rfl
theorem dX12_waits_4 : decode cX12_waits 4 = .ok (.aload_n 0, 1) := dk_get dk_d03_394 2 rfl
theorem dX12_waits_5 : decode cX12_waits 5 = .ok (.getfield 237, 3) := dk_get dk_d03_394 3 rfl
theorem dX12_waits_8 : decode cX12_waits 8 = .ok (.iload_n 1, 1) := dk_get dk_d03_394 4 rfl
theorem dX12_waits_9 : decode cX12_waits 9 = .ok (.iastore, 1) := dk_get dk_d03_394 5 rfl
theorem dX12_waits_10 : decode cX12_waits 10 = .ok (.aload_n 0, 1) := dk_get dk_d03_394 6 rfl
theorem dX12_waits_11 : decode cX12_waits 11 = .ok (.aload_n 0, 1) := dk_get dk_d03_394 7 rfl
theorem dX12_waits_12 : decode cX12_waits 12 = .ok (.getfield 237, 3) := dk_get dk_d03_394 8 rfl
theorem dX12_waits_15 : decode cX12_waits 15 = .ok (.iconst 1, 1) := dk_get dk_d03_394 9 rfl
theorem dX12_waits_16 : decode cX12_waits 16 = .ok (.iadd, 1) := dk_get dk_d03_394 10 rfl
theorem dX12_waits_17 : decode cX12_waits 17 = .ok (.putfield 237, 3) := dk_get dk_d03_394 11 rfl
theorem dX12_waits_20 : decode cX12_waits 20 = .ok (.return_, 1) := dk_get dk_d03_394 12 rfl
theorem dk_d03_395 : dkc cX12_settles [(0, .aload_n 0, 1), (1, .getfield 237, 3), (4, .ifCond .le 53, 3), (7, .aload_n 0, 1), (8, .getfield 58, 3), (11, .aload_n 0, 1), (12, .getfield 237, 3), (15, .iconst 1, 1), (16, .isub, 1), (17, .iaload, 1), (18, .iload_n 1, 1), (19, .if_icmp .ne 38, 3), (22, .aload_n 0, 1), (23, .aload_n 0, 1), (24, .getfield 237, 3), (27, .iconst 1, 1), (28, .isub, 1), (29, .putfield 237, 3), (32, .aload_n 0, 1), (33, .iload_n 1, 1), (34, .iconst 0, 1), (35, .invokevirtual 217, 3), (38, .iload_n 1, 1), (39, .bipush 9, 2), (41, .if_icmp .ne (-41), 3)] = true := by decide +kernel
theorem dX12_settles_0 : decode cX12_settles 0 = .ok (.aload_n 0, 1) := dk_get dk_d03_395 0 rfl
theorem dX12_settles_1 : decode cX12_settles 1 = .ok (.getfield 237, 3) := dk_get dk_d03_395 1 rfl
theorem dX12_settles_4 : decode cX12_settles 4 = .ok (.ifCond .le 53, 3) := dk_get dk_d03_395 2 rfl
theorem dX12_settles_7 : decode cX12_settles 7 = .ok (.aload_n 0, 1) := dk_get dk_d03_395 3 rfl
theorem dX12_settles_8 : decode cX12_settles 8 = .ok (.getfield 58, 3) := dk_get dk_d03_395 4 rfl
theorem dX12_settles_11 : decode cX12_settles 11 = .ok (.aload_n 0, 1) := dk_get dk_d03_395 5 rfl
theorem dX12_settles_12 : decode cX12_settles 12 = .ok (.getfield 237, 3) := dk_get dk_d03_395 6 rfl
theorem dX12_settles_15 : decode cX12_settles 15 = .ok (.iconst 1, 1) := dk_get dk_d03_395 7 rfl
theorem dX12_settles_16 : decode cX12_settles 16 = .ok (.isub, 1) := dk_get dk_d03_395 8 rfl
theorem dX12_settles_17 : decode cX12_settles 17 = .ok (.iaload, 1) := dk_get dk_d03_395 9 rfl
theorem dX12_settles_18 : decode cX12_settles 18 = .ok (.iload_n 1, 1) := dk_get dk_d03_395 10 rfl
theorem dX12_settles_19 : decode cX12_settles 19 = .ok (.if_icmp .ne 38, 3) := dk_get dk_d03_395 11 rfl
theorem dX12_settles_22 : decode cX12_settles 22 = .ok (.aload_n 0, 1) := dk_get dk_d03_395 12 rfl
theorem dX12_settles_23 : decode cX12_settles 23 = .ok (.aload_n 0, 1) := dk_get dk_d03_395 13 rfl
theorem dX12_settles_24 : decode cX12_settles 24 = .ok (.getfield 237, 3) := dk_get dk_d03_395 14 rfl
theorem dX12_settles_27 : decode cX12_settles 27 = .ok (.iconst 1, 1) := dk_get dk_d03_395 15 rfl
theorem dX12_settles_28 : decode cX12_settles 28 = .ok (.isub, 1) := dk_get dk_d03_395 16 rfl
theorem dX12_settles_29 : decode cX12_settles 29 = .ok (.putfield 237, 3) := dk_get dk_d03_395 17 rfl
theorem dX12_settles_32 : decode cX12_settles 32 = .ok (.aload_n 0, 1) := dk_get dk_d03_395 18 rfl
theorem dX12_settles_33 : decode cX12_settles 33 = .ok (.iload_n 1, 1) := dk_get dk_d03_395 19 rfl
theorem dX12_settles_34 : decode cX12_settles 34 = .ok (.iconst 0, 1) := dk_get dk_d03_395 20 rfl
theorem dX12_settles_35 : decode cX12_settles 35 = .ok (.invokevirtual 217, 3) := dk_get dk_d03_395 21 rfl
theorem dX12_settles_38 : decode cX12_settles 38 = .ok (.iload_n 1, 1) := dk_get dk_d03_395 22 rfl
theorem dX12_settles_39 : decode cX12_settles 39 = .ok (.bipush 9, 2) := dk_get dk_d03_395 23 rfl
theorem dX12_settles_41 : decode cX12_settles 41 = .ok (.if_icmp .ne (-41), 3) := dk_get dk_d03_395 24 rfl
theorem dk_d03_396 : dkc cX12_settles [(44, .aload_n 0, 1), (45, .aload_n 0, 1), (46, .getfield 240, 3), (49, .iconst 1, 1), (50, .isub, 1), (51, .putfield 240, 3), (54, .goto (-54), 3), (57, .return_, 1)] = true := by decide +kernel
theorem dX12_settles_44 : decode cX12_settles 44 = .ok (.aload_n 0, 1) := dk_get dk_d03_396 0 rfl
theorem dX12_settles_45 : decode cX12_settles 45 = .ok (.aload_n 0, 1) := dk_get dk_d03_396 1 rfl
theorem dX12_settles_46 : decode cX12_settles 46 = .ok (.getfield 240, 3) := dk_get dk_d03_396 2 rfl
theorem dX12_settles_49 : decode cX12_settles 49 = .ok (.iconst 1, 1) := dk_get dk_d03_396 3 rfl
theorem dX12_settles_50 : decode cX12_settles 50 = .ok (.isub, 1) := dk_get dk_d03_396 4 rfl
theorem dX12_settles_51 : decode cX12_settles 51 = .ok (.putfield 240, 3) := dk_get dk_d03_396 5 rfl
theorem dX12_settles_54 : decode cX12_settles 54 = .ok (.goto (-54), 3) := dk_get dk_d03_396 6 rfl
theorem dX12_settles_57 : decode cX12_settles 57 = .ok (.return_, 1) := dk_get dk_d03_396 7 rfl
theorem dk_d03_397 : dkc cX12_readAny [(0, .iconst 0, 1), (1, .istore_n 1, 1), (2, .aload_n 0, 1), (3, .iconst 0, 1), (4, .putfield 237, 3), (7, .iconst 1, 1), (8, .istore_n 2, 1), (9, .iload_n 2, 1), (10, .ifCond .eq 99, 3), (13, .aload_n 0, 1), (14, .bipush 6, 2), (16, .invokevirtual 243, 3), (19, .istore_n 3, 1), (20, .iload_n 3, 1), (21, .ifCond .ne 12, 3), (24, .aload_n 0, 1), (25, .bipush 40, 2), (27, .invokevirtual 228, 3), (30, .ifCond .eq 58, 3), (33, .aload_n 0, 1), (34, .getfield 240, 3), (37, .bipush 8, 2), (39, .if_icmp .ne 9, 3), (42, .aload_n 0, 1), (43, .iconst 3, 1)] = true := by decide +kernel
theorem dX12_readAny_0 : decode cX12_readAny 0 = .ok (.iconst 0, 1) := dk_get dk_d03_397 0 rfl
theorem dX12_readAny_1 : decode cX12_readAny 1 = .ok (.istore_n 1, 1) := dk_get dk_d03_397 1 rfl
theorem dX12_readAny_2 : decode cX12_readAny 2 = .ok (.aload_n 0, 1) := dk_get dk_d03_397 2 rfl
theorem dX12_readAny_3 : decode cX12_readAny 3 = .ok (.iconst 0, 1) := dk_get dk_d03_397 3 rfl
theorem dX12_readAny_4 : decode cX12_readAny 4 = .ok (.putfield 237, 3) := dk_get dk_d03_397 4 rfl
theorem dX12_readAny_7 : decode cX12_readAny 7 = .ok (.iconst 1, 1) := dk_get dk_d03_397 5 rfl
theorem dX12_readAny_8 : decode cX12_readAny 8 = .ok (.istore_n 2, 1) := dk_get dk_d03_397 6 rfl
theorem dX12_readAny_9 : decode cX12_readAny 9 = .ok (.iload_n 2, 1) := dk_get dk_d03_397 7 rfl
theorem dX12_readAny_10 : decode cX12_readAny 10 = .ok (.ifCond .eq 99, 3) := dk_get dk_d03_397 8 rfl
theorem dX12_readAny_13 : decode cX12_readAny 13 = .ok (.aload_n 0, 1) := dk_get dk_d03_397 9 rfl
theorem dX12_readAny_14 : decode cX12_readAny 14 = .ok (.bipush 6, 2) := dk_get dk_d03_397 10 rfl
theorem dX12_readAny_16 : decode cX12_readAny 16 = .ok (.invokevirtual 243, 3) := dk_get dk_d03_397 11 rfl
theorem dX12_readAny_19 : decode cX12_readAny 19 = .ok (.istore_n 3, 1) := dk_get dk_d03_397 12 rfl
theorem dX12_readAny_20 : decode cX12_readAny 20 = .ok (.iload_n 3, 1) := dk_get dk_d03_397 13 rfl
theorem dX12_readAny_21 : decode cX12_readAny 21 = .ok (.ifCond .ne 12, 3) := dk_get dk_d03_397 14 rfl
theorem dX12_readAny_24 : decode cX12_readAny 24 = .ok (.aload_n 0, 1) := dk_get dk_d03_397 15 rfl
theorem dX12_readAny_25 : decode cX12_readAny 25 = .ok (.bipush 40, 2) := dk_get dk_d03_397 16 rfl
theorem dX12_readAny_27 : decode cX12_readAny 27 = .ok (.invokevirtual 228, 3) := dk_get dk_d03_397 17 rfl
theorem dX12_readAny_30 : decode cX12_readAny 30 = .ok (.ifCond .eq 58, 3) := dk_get dk_d03_397 18 rfl
theorem dX12_readAny_33 : decode cX12_readAny 33 = .ok (.aload_n 0, 1) := dk_get dk_d03_397 19 rfl
theorem dX12_readAny_34 : decode cX12_readAny 34 = .ok (.getfield 240, 3) := dk_get dk_d03_397 20 rfl
theorem dX12_readAny_37 : decode cX12_readAny 37 = .ok (.bipush 8, 2) := dk_get dk_d03_397 21 rfl
theorem dX12_readAny_39 : decode cX12_readAny 39 = .ok (.if_icmp .ne 9, 3) := dk_get dk_d03_397 22 rfl
theorem dX12_readAny_42 : decode cX12_readAny 42 = .ok (.aload_n 0, 1) := dk_get dk_d03_397 23 rfl
theorem dX12_readAny_43 : decode cX12_readAny 43 = .ok (.iconst 3, 1) := dk_get dk_d03_397 24 rfl
theorem dk_d03_398 : dkc cX12_readAny [(44, .invokevirtual 214, 3), (47, .ireturn, 1), (48, .aload_n 0, 1), (49, .aload_n 0, 1), (50, .getfield 240, 3), (53, .iconst 1, 1), (54, .iadd, 1), (55, .putfield 240, 3), (58, .iload_n 3, 1), (59, .ifCond .ne 7, 3), (62, .iload_n 1, 1), (63, .iconst 1, 1), (64, .iadd, 1), (65, .istore_n 1, 1), (66, .aload_n 0, 1), (67, .iload_n 3, 1), (68, .ifCond .eq 8, 3), (71, .bipush 9, 2), (73, .goto 5, 3), (76, .bipush 12, 2), (78, .invokevirtual 246, 3), (81, .aload_n 0, 1), (82, .invokevirtual 221, 3), (85, .goto (-76), 3), (88, .aload_n 0, 1)] = true := by decide +kernel
theorem dX12_readAny_44 : decode cX12_readAny 44 = .ok (.invokevirtual 214, 3) := dk_get dk_d03_398 0 rfl
theorem dX12_readAny_47 : decode cX12_readAny 47 = .ok (.ireturn, 1) := dk_get dk_d03_398 1 rfl
theorem dX12_readAny_48 : decode cX12_readAny 48 = .ok (.aload_n 0, 1) := dk_get dk_d03_398 2 rfl
theorem dX12_readAny_49 : decode cX12_readAny 49 = .ok (.aload_n 0, 1) := dk_get dk_d03_398 3 rfl
theorem dX12_readAny_50 : decode cX12_readAny 50 = .ok (.getfield 240, 3) := dk_get dk_d03_398 4 rfl
theorem dX12_readAny_53 : decode cX12_readAny 53 = .ok (.iconst 1, 1) := dk_get dk_d03_398 5 rfl
theorem dX12_readAny_54 : decode cX12_readAny 54 = .ok (.iadd, 1) := dk_get dk_d03_398 6 rfl
theorem dX12_readAny_55 : decode cX12_readAny 55 = .ok (.putfield 240, 3) := dk_get dk_d03_398 7 rfl
theorem dX12_readAny_58 : decode cX12_readAny 58 = .ok (.iload_n 3, 1) := dk_get dk_d03_398 8 rfl
theorem dX12_readAny_59 : decode cX12_readAny 59 = .ok (.ifCond .ne 7, 3) := dk_get dk_d03_398 9 rfl
theorem dX12_readAny_62 : decode cX12_readAny 62 = .ok (.iload_n 1, 1) := dk_get dk_d03_398 10 rfl
theorem dX12_readAny_63 : decode cX12_readAny 63 = .ok (.iconst 1, 1) := dk_get dk_d03_398 11 rfl
theorem dX12_readAny_64 : decode cX12_readAny 64 = .ok (.iadd, 1) := dk_get dk_d03_398 12 rfl
theorem dX12_readAny_65 : decode cX12_readAny 65 = .ok (.istore_n 1, 1) := dk_get dk_d03_398 13 rfl
theorem dX12_readAny_66 : decode cX12_readAny 66 = .ok (.aload_n 0, 1) := dk_get dk_d03_398 14 rfl
theorem dX12_readAny_67 : decode cX12_readAny 67 = .ok (.iload_n 3, 1) := dk_get dk_d03_398 15 rfl
theorem dX12_readAny_68 : decode cX12_readAny 68 = .ok (.ifCond .eq 8, 3) := dk_get dk_d03_398 16 rfl
theorem dX12_readAny_71 : decode cX12_readAny 71 = .ok (.bipush 9, 2) := dk_get dk_d03_398 17 rfl
theorem dX12_readAny_73 : decode cX12_readAny 73 = .ok (.goto 5, 3) := dk_get dk_d03_398 18 rfl
theorem dX12_readAny_76 : decode cX12_readAny 76 = .ok (.bipush 12, 2) := dk_get dk_d03_398 19 rfl
theorem dX12_readAny_78 : decode cX12_readAny 78 = .ok (.invokevirtual 246, 3) := dk_get dk_d03_398 20 rfl
theorem dX12_readAny_81 : decode cX12_readAny 81 = .ok (.aload_n 0, 1) := dk_get dk_d03_398 21 rfl
theorem dX12_readAny_82 : decode cX12_readAny 82 = .ok (.invokevirtual 221, 3) := dk_get dk_d03_398 22 rfl
theorem dX12_readAny_85 : decode cX12_readAny 85 = .ok (.goto (-76), 3) := dk_get dk_d03_398 23 rfl
theorem dX12_readAny_88 : decode cX12_readAny 88 = .ok (.aload_n 0, 1) := dk_get dk_d03_398 24 rfl
theorem dk_d03_399 : dkc cX12_readAny [(89, .invokevirtual 249, 3), (92, .iconst (-1), 1), (93, .if_icmp .ne 5, 3), (96, .iconst (-1), 1), (97, .ireturn, 1), (98, .aload_n 0, 1), (99, .bipush 9, 2), (101, .invokevirtual 252, 3), (104, .iconst 0, 1), (105, .istore_n 2, 1), (106, .goto (-97), 3), (109, .aload_n 0, 1), (110, .iconst 5, 1), (111, .invokevirtual 243, 3), (114, .ifCond .eq 24, 3), (117, .aload_n 0, 1), (118, .bipush 10, 2), (120, .invokevirtual 252, 3), (123, .aload_n 0, 1), (124, .bipush 10, 2), (126, .invokevirtual 246, 3), (129, .aload_n 0, 1), (130, .invokevirtual 221, 3), (133, .iconst 1, 1), (134, .istore_n 2, 1)] = true := by decide +kernel
theorem dX12_readAny_89 : decode cX12_readAny 89 = .ok (.invokevirtual 249, 3) := dk_get dk_d03_399 0 rfl
theorem dX12_readAny_92 : decode cX12_readAny 92 = .ok (.iconst (-1), 1) := dk_get dk_d03_399 1 rfl
theorem dX12_readAny_93 : decode cX12_readAny 93 = .ok (.if_icmp .ne 5, 3) := dk_get dk_d03_399 2 rfl
theorem dX12_readAny_96 : decode cX12_readAny 96 = .ok (.iconst (-1), 1) := dk_get dk_d03_399 3 rfl
theorem dX12_readAny_97 : decode cX12_readAny 97 = .ok (.ireturn, 1) := dk_get dk_d03_399 4 rfl
theorem dX12_readAny_98 : decode cX12_readAny 98 = .ok (.aload_n 0, 1) := dk_get dk_d03_399 5 rfl
theorem dX12_readAny_99 : decode cX12_readAny 99 = .ok (.bipush 9, 2) := dk_get dk_d03_399 6 rfl
theorem dX12_readAny_101 : decode cX12_readAny 101 = .ok (.invokevirtual 252, 3) := dk_get dk_d03_399 7 rfl
theorem dX12_readAny_104 : decode cX12_readAny 104 = .ok (.iconst 0, 1) := dk_get dk_d03_399 8 rfl
theorem dX12_readAny_105 : decode cX12_readAny 105 = .ok (.istore_n 2, 1) := dk_get dk_d03_399 9 rfl
theorem dX12_readAny_106 : decode cX12_readAny 106 = .ok (.goto (-97), 3) := dk_get dk_d03_399 10 rfl
theorem dX12_readAny_109 : decode cX12_readAny 109 = .ok (.aload_n 0, 1) := dk_get dk_d03_399 11 rfl
theorem dX12_readAny_110 : decode cX12_readAny 110 = .ok (.iconst 5, 1) := dk_get dk_d03_399 12 rfl
theorem dX12_readAny_111 : decode cX12_readAny 111 = .ok (.invokevirtual 243, 3) := dk_get dk_d03_399 13 rfl
theorem dX12_readAny_114 : decode cX12_readAny 114 = .ok (.ifCond .eq 24, 3) := dk_get dk_d03_399 14 rfl
theorem dX12_readAny_117 : decode cX12_readAny 117 = .ok (.aload_n 0, 1) := dk_get dk_d03_399 15 rfl
theorem dX12_readAny_118 : decode cX12_readAny 118 = .ok (.bipush 10, 2) := dk_get dk_d03_399 16 rfl
theorem dX12_readAny_120 : decode cX12_readAny 120 = .ok (.invokevirtual 252, 3) := dk_get dk_d03_399 17 rfl
theorem dX12_readAny_123 : decode cX12_readAny 123 = .ok (.aload_n 0, 1) := dk_get dk_d03_399 18 rfl
theorem dX12_readAny_124 : decode cX12_readAny 124 = .ok (.bipush 10, 2) := dk_get dk_d03_399 19 rfl
theorem dX12_readAny_126 : decode cX12_readAny 126 = .ok (.invokevirtual 246, 3) := dk_get dk_d03_399 20 rfl
theorem dX12_readAny_129 : decode cX12_readAny 129 = .ok (.aload_n 0, 1) := dk_get dk_d03_399 21 rfl
theorem dX12_readAny_130 : decode cX12_readAny 130 = .ok (.invokevirtual 221, 3) := dk_get dk_d03_399 22 rfl
theorem dX12_readAny_133 : decode cX12_readAny 133 = .ok (.iconst 1, 1) := dk_get dk_d03_399 23 rfl
theorem dX12_readAny_134 : decode cX12_readAny 134 = .ok (.istore_n 2, 1) := dk_get dk_d03_399 24 rfl
theorem dk_d03_400 : dkc cX12_readAny [(135, .goto (-126), 3), (138, .aload_n 0, 1), (139, .iconst 4, 1), (140, .invokevirtual 243, 3), (143, .ifCond .eq 30, 3), (146, .aload_n 0, 1), (147, .bipush 10, 2), (149, .invokevirtual 252, 3), (152, .aload_n 0, 1), (153, .bipush 11, 2), (155, .invokevirtual 252, 3), (158, .aload_n 0, 1), (159, .bipush 11, 2), (161, .invokevirtual 246, 3), (164, .aload_n 0, 1), (165, .invokevirtual 221, 3), (168, .iconst 1, 1), (169, .istore_n 2, 1), (170, .goto (-161), 3), (173, .aload_n 0, 1), (174, .bipush 10, 2), (176, .invokevirtual 252, 3), (179, .aload_n 0, 1), (180, .bipush 11, 2), (182, .invokevirtual 252, 3)] = true := by decide +kernel
theorem dX12_readAny_135 : decode cX12_readAny 135 = .ok (.goto (-126), 3) := dk_get dk_d03_400 0 rfl
theorem dX12_readAny_138 : decode cX12_readAny 138 = .ok (.aload_n 0, 1) := dk_get dk_d03_400 1 rfl
theorem dX12_readAny_139 : decode cX12_readAny 139 = .ok (.iconst 4, 1) := dk_get dk_d03_400 2 rfl
theorem dX12_readAny_140 : decode cX12_readAny 140 = .ok (.invokevirtual 243, 3) := dk_get dk_d03_400 3 rfl
theorem dX12_readAny_143 : decode cX12_readAny 143 = .ok (.ifCond .eq 30, 3) := dk_get dk_d03_400 4 rfl
theorem dX12_readAny_146 : decode cX12_readAny 146 = .ok (.aload_n 0, 1) := dk_get dk_d03_400 5 rfl
theorem dX12_readAny_147 : decode cX12_readAny 147 = .ok (.bipush 10, 2) := dk_get dk_d03_400 6 rfl
theorem dX12_readAny_149 : decode cX12_readAny 149 = .ok (.invokevirtual 252, 3) := dk_get dk_d03_400 7 rfl
theorem dX12_readAny_152 : decode cX12_readAny 152 = .ok (.aload_n 0, 1) := dk_get dk_d03_400 8 rfl
theorem dX12_readAny_153 : decode cX12_readAny 153 = .ok (.bipush 11, 2) := dk_get dk_d03_400 9 rfl
theorem dX12_readAny_155 : decode cX12_readAny 155 = .ok (.invokevirtual 252, 3) := dk_get dk_d03_400 10 rfl
theorem dX12_readAny_158 : decode cX12_readAny 158 = .ok (.aload_n 0, 1) := dk_get dk_d03_400 11 rfl
theorem dX12_readAny_159 : decode cX12_readAny 159 = .ok (.bipush 11, 2) := dk_get dk_d03_400 12 rfl
theorem dX12_readAny_161 : decode cX12_readAny 161 = .ok (.invokevirtual 246, 3) := dk_get dk_d03_400 13 rfl
theorem dX12_readAny_164 : decode cX12_readAny 164 = .ok (.aload_n 0, 1) := dk_get dk_d03_400 14 rfl
theorem dX12_readAny_165 : decode cX12_readAny 165 = .ok (.invokevirtual 221, 3) := dk_get dk_d03_400 15 rfl
theorem dX12_readAny_168 : decode cX12_readAny 168 = .ok (.iconst 1, 1) := dk_get dk_d03_400 16 rfl
theorem dX12_readAny_169 : decode cX12_readAny 169 = .ok (.istore_n 2, 1) := dk_get dk_d03_400 17 rfl
theorem dX12_readAny_170 : decode cX12_readAny 170 = .ok (.goto (-161), 3) := dk_get dk_d03_400 18 rfl
theorem dX12_readAny_173 : decode cX12_readAny 173 = .ok (.aload_n 0, 1) := dk_get dk_d03_400 19 rfl
theorem dX12_readAny_174 : decode cX12_readAny 174 = .ok (.bipush 10, 2) := dk_get dk_d03_400 20 rfl
theorem dX12_readAny_176 : decode cX12_readAny 176 = .ok (.invokevirtual 252, 3) := dk_get dk_d03_400 21 rfl
theorem dX12_readAny_179 : decode cX12_readAny 179 = .ok (.aload_n 0, 1) := dk_get dk_d03_400 22 rfl
theorem dX12_readAny_180 : decode cX12_readAny 180 = .ok (.bipush 11, 2) := dk_get dk_d03_400 23 rfl
theorem dX12_readAny_182 : decode cX12_readAny 182 = .ok (.invokevirtual 252, 3) := dk_get dk_d03_400 24 rfl
theorem dk_d03_401 : dkc cX12_readAny [(185, .iload_n 1, 1), (186, .ifCond .ne 5, 3), (189, .iconst 0, 1), (190, .ireturn, 1), (191, .aload_n 0, 1), (192, .bipush 41, 2), (194, .invokevirtual 228, 3), (197, .ifCond .ne 9, 3), (200, .aload_n 0, 1), (201, .iconst 1, 1), (202, .invokevirtual 214, 3), (205, .ireturn, 1), (206, .aload_n 0, 1), (207, .aload_n 0, 1), (208, .getfield 237, 3), (211, .iconst 1, 1), (212, .isub, 1), (213, .putfield 237, 3), (216, .iload_n 1, 1), (217, .iconst 1, 1), (218, .isub, 1), (219, .istore_n 1, 1), (220, .aload_n 0, 1), (221, .aload_n 0, 1), (222, .getfield 240, 3)] = true := by decide +kernel
theorem dX12_readAny_185 : decode cX12_readAny 185 = .ok (.iload_n 1, 1) := dk_get dk_d03_401 0 rfl
theorem dX12_readAny_186 : decode cX12_readAny 186 = .ok (.ifCond .ne 5, 3) := dk_get dk_d03_401 1 rfl
theorem dX12_readAny_189 : decode cX12_readAny 189 = .ok (.iconst 0, 1) := dk_get dk_d03_401 2 rfl
theorem dX12_readAny_190 : decode cX12_readAny 190 = .ok (.ireturn, 1) := dk_get dk_d03_401 3 rfl
theorem dX12_readAny_191 : decode cX12_readAny 191 = .ok (.aload_n 0, 1) := dk_get dk_d03_401 4 rfl
theorem dX12_readAny_192 : decode cX12_readAny 192 = .ok (.bipush 41, 2) := dk_get dk_d03_401 5 rfl
theorem dX12_readAny_194 : decode cX12_readAny 194 = .ok (.invokevirtual 228, 3) := dk_get dk_d03_401 6 rfl
theorem dX12_readAny_197 : decode cX12_readAny 197 = .ok (.ifCond .ne 9, 3) := dk_get dk_d03_401 7 rfl
theorem dX12_readAny_200 : decode cX12_readAny 200 = .ok (.aload_n 0, 1) := dk_get dk_d03_401 8 rfl
theorem dX12_readAny_201 : decode cX12_readAny 201 = .ok (.iconst 1, 1) := dk_get dk_d03_401 9 rfl
theorem dX12_readAny_202 : decode cX12_readAny 202 = .ok (.invokevirtual 214, 3) := dk_get dk_d03_401 10 rfl
theorem dX12_readAny_205 : decode cX12_readAny 205 = .ok (.ireturn, 1) := dk_get dk_d03_401 11 rfl
theorem dX12_readAny_206 : decode cX12_readAny 206 = .ok (.aload_n 0, 1) := dk_get dk_d03_401 12 rfl
theorem dX12_readAny_207 : decode cX12_readAny 207 = .ok (.aload_n 0, 1) := dk_get dk_d03_401 13 rfl
theorem dX12_readAny_208 : decode cX12_readAny 208 = .ok (.getfield 237, 3) := dk_get dk_d03_401 14 rfl
theorem dX12_readAny_211 : decode cX12_readAny 211 = .ok (.iconst 1, 1) := dk_get dk_d03_401 15 rfl
theorem dX12_readAny_212 : decode cX12_readAny 212 = .ok (.isub, 1) := dk_get dk_d03_401 16 rfl
theorem dX12_readAny_213 : decode cX12_readAny 213 = .ok (.putfield 237, 3) := dk_get dk_d03_401 17 rfl
theorem dX12_readAny_216 : decode cX12_readAny 216 = .ok (.iload_n 1, 1) := dk_get dk_d03_401 18 rfl
theorem dX12_readAny_217 : decode cX12_readAny 217 = .ok (.iconst 1, 1) := dk_get dk_d03_401 19 rfl
theorem dX12_readAny_218 : decode cX12_readAny 218 = .ok (.isub, 1) := dk_get dk_d03_401 20 rfl
theorem dX12_readAny_219 : decode cX12_readAny 219 = .ok (.istore_n 1, 1) := dk_get dk_d03_401 21 rfl
theorem dX12_readAny_220 : decode cX12_readAny 220 = .ok (.aload_n 0, 1) := dk_get dk_d03_401 22 rfl
theorem dX12_readAny_221 : decode cX12_readAny 221 = .ok (.aload_n 0, 1) := dk_get dk_d03_401 23 rfl
theorem dX12_readAny_222 : decode cX12_readAny 222 = .ok (.getfield 240, 3) := dk_get dk_d03_401 24 rfl
theorem dk_d03_402 : dkc cX12_readAny [(225, .iconst 1, 1), (226, .isub, 1), (227, .putfield 240, 3), (230, .aload_n 0, 1), (231, .bipush 9, 2), (233, .invokevirtual 252, 3), (236, .aload_n 0, 1), (237, .invokevirtual 221, 3), (240, .goto (-231), 3)] = true := by decide +kernel
theorem dX12_readAny_225 : decode cX12_readAny 225 = .ok (.iconst 1, 1) := dk_get dk_d03_402 0 rfl
theorem dX12_readAny_226 : decode cX12_readAny 226 = .ok (.isub, 1) := dk_get dk_d03_402 1 rfl
theorem dX12_readAny_227 : decode cX12_readAny 227 = .ok (.putfield 240, 3) := dk_get dk_d03_402 2 rfl
theorem dX12_readAny_230 : decode cX12_readAny 230 = .ok (.aload_n 0, 1) := dk_get dk_d03_402 3 rfl
theorem dX12_readAny_231 : decode cX12_readAny 231 = .ok (.bipush 9, 2) := dk_get dk_d03_402 4 rfl
theorem dX12_readAny_233 : decode cX12_readAny 233 = .ok (.invokevirtual 252, 3) := dk_get dk_d03_402 5 rfl
theorem dX12_readAny_236 : decode cX12_readAny 236 = .ok (.aload_n 0, 1) := dk_get dk_d03_402 6 rfl
theorem dX12_readAny_237 : decode cX12_readAny 237 = .ok (.invokevirtual 221, 3) := dk_get dk_d03_402 7 rfl
theorem dX12_readAny_240 : decode cX12_readAny 240 = .ok (.goto (-231), 3) := dk_get dk_d03_402 8 rfl
theorem dk_d03_403 : dkc cX12_isLineWord [(0, .aload_n 0, 1), (1, .getfield 183, 3), (4, .iconst 2, 1), (5, .if_icmp .ne 20, 3), (8, .aload_n 0, 1), (9, .aload_n 0, 1), (10, .getfield 186, 3), (13, .iconst 0, 1), (14, .iconst 2, 1), (15, .invokevirtual 155, 3), (18, .ifCond .eq 7, 3), (21, .iconst 1, 1), (22, .goto 4, 3), (25, .iconst 0, 1), (26, .ireturn, 1)] = true := by decide +kernel
theorem dX12_isLineWord_0 : decode cX12_isLineWord 0 = .ok (.aload_n 0, 1) := dk_get dk_d03_403 0 rfl
theorem dX12_isLineWord_1 : decode cX12_isLineWord 1 = .ok (.getfield 183, 3) := dk_get dk_d03_403 1 rfl
theorem dX12_isLineWord_4 : decode cX12_isLineWord 4 = .ok (.iconst 2, 1) := dk_get dk_d03_403 2 rfl
theorem dX12_isLineWord_5 : decode cX12_isLineWord 5 = .ok (.if_icmp .ne 20, 3) := dk_get dk_d03_403 3 rfl
theorem dX12_isLineWord_8 : decode cX12_isLineWord 8 = .ok (.aload_n 0, 1) := dk_get dk_d03_403 4 rfl
theorem dX12_isLineWord_9 : decode cX12_isLineWord 9 = .ok (.aload_n 0, 1) := dk_get dk_d03_403 5 rfl
theorem dX12_isLineWord_10 : decode cX12_isLineWord 10 = .ok (.getfield 186, 3) := dk_get dk_d03_403 6 rfl
theorem dX12_isLineWord_13 : decode cX12_isLineWord 13 = .ok (.iconst 0, 1) := dk_get dk_d03_403 7 rfl
theorem dX12_isLineWord_14 : decode cX12_isLineWord 14 = .ok (.iconst 2, 1) := dk_get dk_d03_403 8 rfl
theorem dX12_isLineWord_15 : decode cX12_isLineWord 15 = .ok (.invokevirtual 155, 3) := dk_get dk_d03_403 9 rfl
theorem dX12_isLineWord_18 : decode cX12_isLineWord 18 = .ok (.ifCond .eq 7, 3) := dk_get dk_d03_403 10 rfl
theorem dX12_isLineWord_21 : decode cX12_isLineWord 21 = .ok (.iconst 1, 1) := dk_get dk_d03_403 11 rfl
theorem dX12_isLineWord_22 : decode cX12_isLineWord 22 = .ok (.goto 4, 3) := dk_get dk_d03_403 12 rfl
theorem dX12_isLineWord_25 : decode cX12_isLineWord 25 = .ok (.iconst 0, 1) := dk_get dk_d03_403 13 rfl
theorem dX12_isLineWord_26 : decode cX12_isLineWord 26 = .ok (.ireturn, 1) := dk_get dk_d03_403 14 rfl
theorem dk_d03_404 : dkc cX12_readLaw [(0, .iconst 0, 1), (1, .istore_n 1, 1), (2, .aload_n 0, 1), (3, .invokevirtual 255, 3), (6, .ifCond .eq 122, 3), (9, .iload_n 1, 1), (10, .bipush 16, 2), (12, .if_icmp .ne 9, 3), (15, .aload_n 0, 1), (16, .iconst 3, 1), (17, .invokevirtual 214, 3), (20, .ireturn, 1), (21, .bipush 32, 2), (23, .iload_n 1, 1), (24, .iadd, 1), (25, .istore_n 2, 1), (26, .aload_n 0, 1), (27, .getfield 40, 3), (30, .iload_n 2, 1), (31, .aload_n 0, 1), (32, .getfield 186, 3), (35, .iastore, 1), (36, .aload_n 0, 1), (37, .invokevirtual 221, 3), (40, .aload_n 0, 1)] = true := by decide +kernel
theorem dX12_readLaw_0 : decode cX12_readLaw 0 = .ok (.iconst 0, 1) := dk_get dk_d03_404 0 rfl
theorem dX12_readLaw_1 : decode cX12_readLaw 1 = .ok (.istore_n 1, 1) := dk_get dk_d03_404 1 rfl
theorem dX12_readLaw_2 : decode cX12_readLaw 2 = .ok (.aload_n 0, 1) := dk_get dk_d03_404 2 rfl
theorem dX12_readLaw_3 : decode cX12_readLaw 3 = .ok (.invokevirtual 255, 3) := dk_get dk_d03_404 3 rfl
theorem dX12_readLaw_6 : decode cX12_readLaw 6 = .ok (.ifCond .eq 122, 3) := dk_get dk_d03_404 4 rfl
theorem dX12_readLaw_9 : decode cX12_readLaw 9 = .ok (.iload_n 1, 1) := dk_get dk_d03_404 5 rfl
theorem dX12_readLaw_10 : decode cX12_readLaw 10 = .ok (.bipush 16, 2) := dk_get dk_d03_404 6 rfl
theorem dX12_readLaw_12 : decode cX12_readLaw 12 = .ok (.if_icmp .ne 9, 3) := dk_get dk_d03_404 7 rfl
theorem dX12_readLaw_15 : decode cX12_readLaw 15 = .ok (.aload_n 0, 1) := dk_get dk_d03_404 8 rfl
theorem dX12_readLaw_16 : decode cX12_readLaw 16 = .ok (.iconst 3, 1) := dk_get dk_d03_404 9 rfl
theorem dX12_readLaw_17 : decode cX12_readLaw 17 = .ok (.invokevirtual 214, 3) := dk_get dk_d03_404 10 rfl
theorem dX12_readLaw_20 : decode cX12_readLaw 20 = .ok (.ireturn, 1) := dk_get dk_d03_404 11 rfl
theorem dX12_readLaw_21 : decode cX12_readLaw 21 = .ok (.bipush 32, 2) := dk_get dk_d03_404 12 rfl
theorem dX12_readLaw_23 : decode cX12_readLaw 23 = .ok (.iload_n 1, 1) := dk_get dk_d03_404 13 rfl
theorem dX12_readLaw_24 : decode cX12_readLaw 24 = .ok (.iadd, 1) := dk_get dk_d03_404 14 rfl
theorem dX12_readLaw_25 : decode cX12_readLaw 25 = .ok (.istore_n 2, 1) := dk_get dk_d03_404 15 rfl
theorem dX12_readLaw_26 : decode cX12_readLaw 26 = .ok (.aload_n 0, 1) := dk_get dk_d03_404 16 rfl
theorem dX12_readLaw_27 : decode cX12_readLaw 27 = .ok (.getfield 40, 3) := dk_get dk_d03_404 17 rfl
theorem dX12_readLaw_30 : decode cX12_readLaw 30 = .ok (.iload_n 2, 1) := dk_get dk_d03_404 18 rfl
theorem dX12_readLaw_31 : decode cX12_readLaw 31 = .ok (.aload_n 0, 1) := dk_get dk_d03_404 19 rfl
theorem dX12_readLaw_32 : decode cX12_readLaw 32 = .ok (.getfield 186, 3) := dk_get dk_d03_404 20 rfl
theorem dX12_readLaw_35 : decode cX12_readLaw 35 = .ok (.iastore, 1) := dk_get dk_d03_404 21 rfl
theorem dX12_readLaw_36 : decode cX12_readLaw 36 = .ok (.aload_n 0, 1) := dk_get dk_d03_404 22 rfl
theorem dX12_readLaw_37 : decode cX12_readLaw 37 = .ok (.invokevirtual 221, 3) := dk_get dk_d03_404 23 rfl
theorem dX12_readLaw_40 : decode cX12_readLaw 40 = .ok (.aload_n 0, 1) := dk_get dk_d03_404 24 rfl
theorem dk_d03_405 : dkc cX12_readLaw [(41, .getfield 43, 3), (44, .iload_n 2, 1), (45, .aload_n 0, 1), (46, .getfield 208, 3), (49, .iastore, 1), (50, .aload_n 0, 1), (51, .invokevirtual 234, 3), (54, .iconst (-1), 1), (55, .if_icmp .ne 5, 3), (58, .iconst (-1), 1), (59, .ireturn, 1), (60, .aload_n 0, 1), (61, .getfield 46, 3), (64, .iload_n 2, 1), (65, .aload_n 0, 1), (66, .getfield 208, 3), (69, .iastore, 1), (70, .aload_n 0, 1), (71, .iconst 3, 1), (72, .invokevirtual 243, 3), (75, .ifCond .eq 17, 3), (78, .aload_n 0, 1), (79, .invokevirtual 221, 3), (82, .aload_n 0, 1), (83, .invokevirtual 259, 3)] = true := by decide +kernel
theorem dX12_readLaw_41 : decode cX12_readLaw 41 = .ok (.getfield 43, 3) := dk_get dk_d03_405 0 rfl
theorem dX12_readLaw_44 : decode cX12_readLaw 44 = .ok (.iload_n 2, 1) := dk_get dk_d03_405 1 rfl
theorem dX12_readLaw_45 : decode cX12_readLaw 45 = .ok (.aload_n 0, 1) := dk_get dk_d03_405 2 rfl
theorem dX12_readLaw_46 : decode cX12_readLaw 46 = .ok (.getfield 208, 3) := dk_get dk_d03_405 3 rfl
theorem dX12_readLaw_49 : decode cX12_readLaw 49 = .ok (.iastore, 1) := dk_get dk_d03_405 4 rfl
theorem dX12_readLaw_50 : decode cX12_readLaw 50 = .ok (.aload_n 0, 1) := dk_get dk_d03_405 5 rfl
theorem dX12_readLaw_51 : decode cX12_readLaw 51 = .ok (.invokevirtual 234, 3) := dk_get dk_d03_405 6 rfl
theorem dX12_readLaw_54 : decode cX12_readLaw 54 = .ok (.iconst (-1), 1) := dk_get dk_d03_405 7 rfl
theorem dX12_readLaw_55 : decode cX12_readLaw 55 = .ok (.if_icmp .ne 5, 3) := dk_get dk_d03_405 8 rfl
theorem dX12_readLaw_58 : decode cX12_readLaw 58 = .ok (.iconst (-1), 1) := dk_get dk_d03_405 9 rfl
theorem dX12_readLaw_59 : decode cX12_readLaw 59 = .ok (.ireturn, 1) := dk_get dk_d03_405 10 rfl
theorem dX12_readLaw_60 : decode cX12_readLaw 60 = .ok (.aload_n 0, 1) := dk_get dk_d03_405 11 rfl
theorem dX12_readLaw_61 : decode cX12_readLaw 61 = .ok (.getfield 46, 3) := dk_get dk_d03_405 12 rfl
theorem dX12_readLaw_64 : decode cX12_readLaw 64 = .ok (.iload_n 2, 1) := dk_get dk_d03_405 13 rfl
theorem dX12_readLaw_65 : decode cX12_readLaw 65 = .ok (.aload_n 0, 1) := dk_get dk_d03_405 14 rfl
theorem dX12_readLaw_66 : decode cX12_readLaw 66 = .ok (.getfield 208, 3) := dk_get dk_d03_405 15 rfl
theorem dX12_readLaw_69 : decode cX12_readLaw 69 = .ok (.iastore, 1) := dk_get dk_d03_405 16 rfl
theorem dX12_readLaw_70 : decode cX12_readLaw 70 = .ok (.aload_n 0, 1) := dk_get dk_d03_405 17 rfl
theorem dX12_readLaw_71 : decode cX12_readLaw 71 = .ok (.iconst 3, 1) := dk_get dk_d03_405 18 rfl
theorem dX12_readLaw_72 : decode cX12_readLaw 72 = .ok (.invokevirtual 243, 3) := dk_get dk_d03_405 19 rfl
theorem dX12_readLaw_75 : decode cX12_readLaw 75 = .ok (.ifCond .eq 17, 3) := dk_get dk_d03_405 20 rfl
theorem dX12_readLaw_78 : decode cX12_readLaw 78 = .ok (.aload_n 0, 1) := dk_get dk_d03_405 21 rfl
theorem dX12_readLaw_79 : decode cX12_readLaw 79 = .ok (.invokevirtual 221, 3) := dk_get dk_d03_405 22 rfl
theorem dX12_readLaw_82 : decode cX12_readLaw 82 = .ok (.aload_n 0, 1) := dk_get dk_d03_405 23 rfl
theorem dX12_readLaw_83 : decode cX12_readLaw 83 = .ok (.invokevirtual 259, 3) := dk_get dk_d03_405 24 rfl
theorem dk_d03_406 : dkc cX12_readLaw [(86, .iconst (-1), 1), (87, .if_icmp .ne 5, 3), (90, .iconst (-1), 1), (91, .ireturn, 1), (92, .aload_n 0, 1), (93, .getfield 49, 3), (96, .iload_n 2, 1), (97, .aload_n 0, 1), (98, .getfield 208, 3), (101, .iastore, 1), (102, .aload_n 0, 1), (103, .bipush 59, 2), (105, .invokevirtual 228, 3), (108, .ifCond .ne 9, 3), (111, .aload_n 0, 1), (112, .iconst 1, 1), (113, .invokevirtual 214, 3), (116, .ireturn, 1), (117, .aload_n 0, 1), (118, .invokevirtual 221, 3), (121, .iload_n 1, 1), (122, .iconst 1, 1), (123, .iadd, 1), (124, .istore_n 1, 1), (125, .goto (-123), 3)] = true := by decide +kernel
theorem dX12_readLaw_86 : decode cX12_readLaw 86 = .ok (.iconst (-1), 1) := dk_get dk_d03_406 0 rfl
theorem dX12_readLaw_87 : decode cX12_readLaw 87 = .ok (.if_icmp .ne 5, 3) := dk_get dk_d03_406 1 rfl
theorem dX12_readLaw_90 : decode cX12_readLaw 90 = .ok (.iconst (-1), 1) := dk_get dk_d03_406 2 rfl
theorem dX12_readLaw_91 : decode cX12_readLaw 91 = .ok (.ireturn, 1) := dk_get dk_d03_406 3 rfl
theorem dX12_readLaw_92 : decode cX12_readLaw 92 = .ok (.aload_n 0, 1) := dk_get dk_d03_406 4 rfl
theorem dX12_readLaw_93 : decode cX12_readLaw 93 = .ok (.getfield 49, 3) := dk_get dk_d03_406 5 rfl
theorem dX12_readLaw_96 : decode cX12_readLaw 96 = .ok (.iload_n 2, 1) := dk_get dk_d03_406 6 rfl
theorem dX12_readLaw_97 : decode cX12_readLaw 97 = .ok (.aload_n 0, 1) := dk_get dk_d03_406 7 rfl
theorem dX12_readLaw_98 : decode cX12_readLaw 98 = .ok (.getfield 208, 3) := dk_get dk_d03_406 8 rfl
theorem dX12_readLaw_101 : decode cX12_readLaw 101 = .ok (.iastore, 1) := dk_get dk_d03_406 9 rfl
theorem dX12_readLaw_102 : decode cX12_readLaw 102 = .ok (.aload_n 0, 1) := dk_get dk_d03_406 10 rfl
theorem dX12_readLaw_103 : decode cX12_readLaw 103 = .ok (.bipush 59, 2) := dk_get dk_d03_406 11 rfl
theorem dX12_readLaw_105 : decode cX12_readLaw 105 = .ok (.invokevirtual 228, 3) := dk_get dk_d03_406 12 rfl
theorem dX12_readLaw_108 : decode cX12_readLaw 108 = .ok (.ifCond .ne 9, 3) := dk_get dk_d03_406 13 rfl
theorem dX12_readLaw_111 : decode cX12_readLaw 111 = .ok (.aload_n 0, 1) := dk_get dk_d03_406 14 rfl
theorem dX12_readLaw_112 : decode cX12_readLaw 112 = .ok (.iconst 1, 1) := dk_get dk_d03_406 15 rfl
theorem dX12_readLaw_113 : decode cX12_readLaw 113 = .ok (.invokevirtual 214, 3) := dk_get dk_d03_406 16 rfl
theorem dX12_readLaw_116 : decode cX12_readLaw 116 = .ok (.ireturn, 1) := dk_get dk_d03_406 17 rfl
theorem dX12_readLaw_117 : decode cX12_readLaw 117 = .ok (.aload_n 0, 1) := dk_get dk_d03_406 18 rfl
theorem dX12_readLaw_118 : decode cX12_readLaw 118 = .ok (.invokevirtual 221, 3) := dk_get dk_d03_406 19 rfl
theorem dX12_readLaw_121 : decode cX12_readLaw 121 = .ok (.iload_n 1, 1) := dk_get dk_d03_406 20 rfl
theorem dX12_readLaw_122 : decode cX12_readLaw 122 = .ok (.iconst 1, 1) := dk_get dk_d03_406 21 rfl
theorem dX12_readLaw_123 : decode cX12_readLaw 123 = .ok (.iadd, 1) := dk_get dk_d03_406 22 rfl
theorem dX12_readLaw_124 : decode cX12_readLaw 124 = .ok (.istore_n 1, 1) := dk_get dk_d03_406 23 rfl
theorem dX12_readLaw_125 : decode cX12_readLaw 125 = .ok (.goto (-123), 3) := dk_get dk_d03_406 24 rfl
theorem dk_d03_407 : dkc cX12_readLaw [(128, .aload_n 0, 1), (129, .getfield 183, 3), (132, .ifCond .ne 7, 3), (135, .iload_n 1, 1), (136, .goto 8, 3), (139, .aload_n 0, 1), (140, .iconst 1, 1), (141, .invokevirtual 214, 3), (144, .ireturn, 1)] = true := by decide +kernel
theorem dX12_readLaw_128 : decode cX12_readLaw 128 = .ok (.aload_n 0, 1) := dk_get dk_d03_407 0 rfl
theorem dX12_readLaw_129 : decode cX12_readLaw 129 = .ok (.getfield 183, 3) := dk_get dk_d03_407 1 rfl
theorem dX12_readLaw_132 : decode cX12_readLaw 132 = .ok (.ifCond .ne 7, 3) := dk_get dk_d03_407 2 rfl
theorem dX12_readLaw_135 : decode cX12_readLaw 135 = .ok (.iload_n 1, 1) := dk_get dk_d03_407 3 rfl
theorem dX12_readLaw_136 : decode cX12_readLaw 136 = .ok (.goto 8, 3) := dk_get dk_d03_407 4 rfl
theorem dX12_readLaw_139 : decode cX12_readLaw 139 = .ok (.aload_n 0, 1) := dk_get dk_d03_407 5 rfl
theorem dX12_readLaw_140 : decode cX12_readLaw 140 = .ok (.iconst 1, 1) := dk_get dk_d03_407 6 rfl
theorem dX12_readLaw_141 : decode cX12_readLaw 141 = .ok (.invokevirtual 214, 3) := dk_get dk_d03_407 7 rfl
theorem dX12_readLaw_144 : decode cX12_readLaw 144 = .ok (.ireturn, 1) := dk_get dk_d03_407 8 rfl
theorem dk_d03_408 : dkc cX12_takesLaw [(0, .iconst 0, 1), (1, .istore_n 2, 1), (2, .iload_n 2, 1), (3, .iload_n 1, 1), (4, .if_icmp .ge 101, 3), (7, .aload_n 0, 1), (8, .getfield 40, 3), (11, .bipush 16, 2), (13, .aload_n 0, 1), (14, .getfield 262, 3), (17, .imul, 1), (18, .iload_n 2, 1), (19, .iadd, 1), (20, .aload_n 0, 1), (21, .getfield 40, 3), (24, .bipush 32, 2), (26, .iload_n 2, 1), (27, .iadd, 1), (28, .iaload, 1), (29, .iastore, 1), (30, .aload_n 0, 1), (31, .getfield 43, 3), (34, .bipush 16, 2), (36, .aload_n 0, 1), (37, .getfield 262, 3)] = true := by decide +kernel
theorem dX12_takesLaw_0 : decode cX12_takesLaw 0 = .ok (.iconst 0, 1) := dk_get dk_d03_408 0 rfl
theorem dX12_takesLaw_1 : decode cX12_takesLaw 1 = .ok (.istore_n 2, 1) := dk_get dk_d03_408 1 rfl
theorem dX12_takesLaw_2 : decode cX12_takesLaw 2 = .ok (.iload_n 2, 1) := dk_get dk_d03_408 2 rfl
theorem dX12_takesLaw_3 : decode cX12_takesLaw 3 = .ok (.iload_n 1, 1) := dk_get dk_d03_408 3 rfl
theorem dX12_takesLaw_4 : decode cX12_takesLaw 4 = .ok (.if_icmp .ge 101, 3) := dk_get dk_d03_408 4 rfl
theorem dX12_takesLaw_7 : decode cX12_takesLaw 7 = .ok (.aload_n 0, 1) := dk_get dk_d03_408 5 rfl
theorem dX12_takesLaw_8 : decode cX12_takesLaw 8 = .ok (.getfield 40, 3) := dk_get dk_d03_408 6 rfl
theorem dX12_takesLaw_11 : decode cX12_takesLaw 11 = .ok (.bipush 16, 2) := dk_get dk_d03_408 7 rfl
theorem dX12_takesLaw_13 : decode cX12_takesLaw 13 = .ok (.aload_n 0, 1) := dk_get dk_d03_408 8 rfl
theorem dX12_takesLaw_14 : decode cX12_takesLaw 14 = .ok (.getfield 262, 3) := dk_get dk_d03_408 9 rfl
theorem dX12_takesLaw_17 : decode cX12_takesLaw 17 = .ok (.imul, 1) := dk_get dk_d03_408 10 rfl
theorem dX12_takesLaw_18 : decode cX12_takesLaw 18 = .ok (.iload_n 2, 1) := dk_get dk_d03_408 11 rfl
theorem dX12_takesLaw_19 : decode cX12_takesLaw 19 = .ok (.iadd, 1) := dk_get dk_d03_408 12 rfl
theorem dX12_takesLaw_20 : decode cX12_takesLaw 20 = .ok (.aload_n 0, 1) := dk_get dk_d03_408 13 rfl
theorem dX12_takesLaw_21 : decode cX12_takesLaw 21 = .ok (.getfield 40, 3) := dk_get dk_d03_408 14 rfl
theorem dX12_takesLaw_24 : decode cX12_takesLaw 24 = .ok (.bipush 32, 2) := dk_get dk_d03_408 15 rfl
theorem dX12_takesLaw_26 : decode cX12_takesLaw 26 = .ok (.iload_n 2, 1) := dk_get dk_d03_408 16 rfl
theorem dX12_takesLaw_27 : decode cX12_takesLaw 27 = .ok (.iadd, 1) := dk_get dk_d03_408 17 rfl
theorem dX12_takesLaw_28 : decode cX12_takesLaw 28 = .ok (.iaload, 1) := dk_get dk_d03_408 18 rfl
theorem dX12_takesLaw_29 : decode cX12_takesLaw 29 = .ok (.iastore, 1) := dk_get dk_d03_408 19 rfl
theorem dX12_takesLaw_30 : decode cX12_takesLaw 30 = .ok (.aload_n 0, 1) := dk_get dk_d03_408 20 rfl
theorem dX12_takesLaw_31 : decode cX12_takesLaw 31 = .ok (.getfield 43, 3) := dk_get dk_d03_408 21 rfl
theorem dX12_takesLaw_34 : decode cX12_takesLaw 34 = .ok (.bipush 16, 2) := dk_get dk_d03_408 22 rfl
theorem dX12_takesLaw_36 : decode cX12_takesLaw 36 = .ok (.aload_n 0, 1) := dk_get dk_d03_408 23 rfl
theorem dX12_takesLaw_37 : decode cX12_takesLaw 37 = .ok (.getfield 262, 3) := dk_get dk_d03_408 24 rfl
theorem dk_d03_409 : dkc cX12_takesLaw [(40, .imul, 1), (41, .iload_n 2, 1), (42, .iadd, 1), (43, .aload_n 0, 1), (44, .getfield 43, 3), (47, .bipush 32, 2), (49, .iload_n 2, 1), (50, .iadd, 1), (51, .iaload, 1), (52, .iastore, 1), (53, .aload_n 0, 1), (54, .getfield 46, 3), (57, .bipush 16, 2), (59, .aload_n 0, 1), (60, .getfield 262, 3), (63, .imul, 1), (64, .iload_n 2, 1), (65, .iadd, 1), (66, .aload_n 0, 1), (67, .getfield 46, 3), (70, .bipush 32, 2), (72, .iload_n 2, 1), (73, .iadd, 1), (74, .iaload, 1), (75, .iastore, 1)] = true := by decide +kernel
theorem dX12_takesLaw_40 : decode cX12_takesLaw 40 = .ok (.imul, 1) := dk_get dk_d03_409 0 rfl
theorem dX12_takesLaw_41 : decode cX12_takesLaw 41 = .ok (.iload_n 2, 1) := dk_get dk_d03_409 1 rfl
theorem dX12_takesLaw_42 : decode cX12_takesLaw 42 = .ok (.iadd, 1) := dk_get dk_d03_409 2 rfl
theorem dX12_takesLaw_43 : decode cX12_takesLaw 43 = .ok (.aload_n 0, 1) := dk_get dk_d03_409 3 rfl
theorem dX12_takesLaw_44 : decode cX12_takesLaw 44 = .ok (.getfield 43, 3) := dk_get dk_d03_409 4 rfl
theorem dX12_takesLaw_47 : decode cX12_takesLaw 47 = .ok (.bipush 32, 2) := dk_get dk_d03_409 5 rfl
theorem dX12_takesLaw_49 : decode cX12_takesLaw 49 = .ok (.iload_n 2, 1) := dk_get dk_d03_409 6 rfl
theorem dX12_takesLaw_50 : decode cX12_takesLaw 50 = .ok (.iadd, 1) := dk_get dk_d03_409 7 rfl
theorem dX12_takesLaw_51 : decode cX12_takesLaw 51 = .ok (.iaload, 1) := dk_get dk_d03_409 8 rfl
theorem dX12_takesLaw_52 : decode cX12_takesLaw 52 = .ok (.iastore, 1) := dk_get dk_d03_409 9 rfl
theorem dX12_takesLaw_53 : decode cX12_takesLaw 53 = .ok (.aload_n 0, 1) := dk_get dk_d03_409 10 rfl
theorem dX12_takesLaw_54 : decode cX12_takesLaw 54 = .ok (.getfield 46, 3) := dk_get dk_d03_409 11 rfl
theorem dX12_takesLaw_57 : decode cX12_takesLaw 57 = .ok (.bipush 16, 2) := dk_get dk_d03_409 12 rfl
theorem dX12_takesLaw_59 : decode cX12_takesLaw 59 = .ok (.aload_n 0, 1) := dk_get dk_d03_409 13 rfl
theorem dX12_takesLaw_60 : decode cX12_takesLaw 60 = .ok (.getfield 262, 3) := dk_get dk_d03_409 14 rfl
theorem dX12_takesLaw_63 : decode cX12_takesLaw 63 = .ok (.imul, 1) := dk_get dk_d03_409 15 rfl
theorem dX12_takesLaw_64 : decode cX12_takesLaw 64 = .ok (.iload_n 2, 1) := dk_get dk_d03_409 16 rfl
theorem dX12_takesLaw_65 : decode cX12_takesLaw 65 = .ok (.iadd, 1) := dk_get dk_d03_409 17 rfl
theorem dX12_takesLaw_66 : decode cX12_takesLaw 66 = .ok (.aload_n 0, 1) := dk_get dk_d03_409 18 rfl
theorem dX12_takesLaw_67 : decode cX12_takesLaw 67 = .ok (.getfield 46, 3) := dk_get dk_d03_409 19 rfl
theorem dX12_takesLaw_70 : decode cX12_takesLaw 70 = .ok (.bipush 32, 2) := dk_get dk_d03_409 20 rfl
theorem dX12_takesLaw_72 : decode cX12_takesLaw 72 = .ok (.iload_n 2, 1) := dk_get dk_d03_409 21 rfl
theorem dX12_takesLaw_73 : decode cX12_takesLaw 73 = .ok (.iadd, 1) := dk_get dk_d03_409 22 rfl
theorem dX12_takesLaw_74 : decode cX12_takesLaw 74 = .ok (.iaload, 1) := dk_get dk_d03_409 23 rfl
theorem dX12_takesLaw_75 : decode cX12_takesLaw 75 = .ok (.iastore, 1) := dk_get dk_d03_409 24 rfl
theorem dk_d03_410 : dkc cX12_takesLaw [(76, .aload_n 0, 1), (77, .getfield 49, 3), (80, .bipush 16, 2), (82, .aload_n 0, 1), (83, .getfield 262, 3), (86, .imul, 1), (87, .iload_n 2, 1), (88, .iadd, 1), (89, .aload_n 0, 1), (90, .getfield 49, 3), (93, .bipush 32, 2), (95, .iload_n 2, 1), (96, .iadd, 1), (97, .iaload, 1), (98, .iastore, 1), (99, .iinc 2 1, 3), (102, .goto (-100), 3), (105, .iconst 0, 1), (106, .istore_n 2, 1), (107, .iload_n 2, 1), (108, .aload_n 0, 1), (109, .getfield 208, 3), (112, .if_icmp .ge 59, 3), (115, .aload_n 0, 1), (116, .getfield 52, 3)] = true := by decide +kernel
theorem dX12_takesLaw_76 : decode cX12_takesLaw 76 = .ok (.aload_n 0, 1) := dk_get dk_d03_410 0 rfl
theorem dX12_takesLaw_77 : decode cX12_takesLaw 77 = .ok (.getfield 49, 3) := dk_get dk_d03_410 1 rfl
theorem dX12_takesLaw_80 : decode cX12_takesLaw 80 = .ok (.bipush 16, 2) := dk_get dk_d03_410 2 rfl
theorem dX12_takesLaw_82 : decode cX12_takesLaw 82 = .ok (.aload_n 0, 1) := dk_get dk_d03_410 3 rfl
theorem dX12_takesLaw_83 : decode cX12_takesLaw 83 = .ok (.getfield 262, 3) := dk_get dk_d03_410 4 rfl
theorem dX12_takesLaw_86 : decode cX12_takesLaw 86 = .ok (.imul, 1) := dk_get dk_d03_410 5 rfl
theorem dX12_takesLaw_87 : decode cX12_takesLaw 87 = .ok (.iload_n 2, 1) := dk_get dk_d03_410 6 rfl
theorem dX12_takesLaw_88 : decode cX12_takesLaw 88 = .ok (.iadd, 1) := dk_get dk_d03_410 7 rfl
theorem dX12_takesLaw_89 : decode cX12_takesLaw 89 = .ok (.aload_n 0, 1) := dk_get dk_d03_410 8 rfl
theorem dX12_takesLaw_90 : decode cX12_takesLaw 90 = .ok (.getfield 49, 3) := dk_get dk_d03_410 9 rfl
theorem dX12_takesLaw_93 : decode cX12_takesLaw 93 = .ok (.bipush 32, 2) := dk_get dk_d03_410 10 rfl
theorem dX12_takesLaw_95 : decode cX12_takesLaw 95 = .ok (.iload_n 2, 1) := dk_get dk_d03_410 11 rfl
theorem dX12_takesLaw_96 : decode cX12_takesLaw 96 = .ok (.iadd, 1) := dk_get dk_d03_410 12 rfl
theorem dX12_takesLaw_97 : decode cX12_takesLaw 97 = .ok (.iaload, 1) := dk_get dk_d03_410 13 rfl
theorem dX12_takesLaw_98 : decode cX12_takesLaw 98 = .ok (.iastore, 1) := dk_get dk_d03_410 14 rfl
theorem dX12_takesLaw_99 : decode cX12_takesLaw 99 = .ok (.iinc 2 1, 3) := dk_get dk_d03_410 15 rfl
theorem dX12_takesLaw_102 : decode cX12_takesLaw 102 = .ok (.goto (-100), 3) := dk_get dk_d03_410 16 rfl
theorem dX12_takesLaw_105 : decode cX12_takesLaw 105 = .ok (.iconst 0, 1) := dk_get dk_d03_410 17 rfl
theorem dX12_takesLaw_106 : decode cX12_takesLaw 106 = .ok (.istore_n 2, 1) := dk_get dk_d03_410 18 rfl
theorem dX12_takesLaw_107 : decode cX12_takesLaw 107 = .ok (.iload_n 2, 1) := dk_get dk_d03_410 19 rfl
theorem dX12_takesLaw_108 : decode cX12_takesLaw 108 = .ok (.aload_n 0, 1) := dk_get dk_d03_410 20 rfl
theorem dX12_takesLaw_109 : decode cX12_takesLaw 109 = .ok (.getfield 208, 3) := dk_get dk_d03_410 21 rfl
theorem dX12_takesLaw_112 : decode cX12_takesLaw 112 = .ok (.if_icmp .ge 59, 3) := dk_get dk_d03_410 22 rfl
theorem dX12_takesLaw_115 : decode cX12_takesLaw 115 = .ok (.aload_n 0, 1) := dk_get dk_d03_410 23 rfl
theorem dX12_takesLaw_116 : decode cX12_takesLaw 116 = .ok (.getfield 52, 3) := dk_get dk_d03_410 24 rfl
theorem dk_d03_411 : dkc cX12_takesLaw [(119, .sipush 400, 3), (122, .aload_n 0, 1), (123, .getfield 262, 3), (126, .imul, 1), (127, .iload_n 2, 1), (128, .iadd, 1), (129, .aload_n 0, 1), (130, .getfield 52, 3), (133, .sipush 800, 3), (136, .iload_n 2, 1), (137, .iadd, 1), (138, .iaload, 1), (139, .iastore, 1), (140, .aload_n 0, 1), (141, .getfield 55, 3), (144, .sipush 400, 3), (147, .aload_n 0, 1), (148, .getfield 262, 3), (151, .imul, 1), (152, .iload_n 2, 1), (153, .iadd, 1), (154, .aload_n 0, 1), (155, .getfield 55, 3), (158, .sipush 800, 3), (161, .iload_n 2, 1)] = true := by decide +kernel
theorem dX12_takesLaw_119 : decode cX12_takesLaw 119 = .ok (.sipush 400, 3) := dk_get dk_d03_411 0 rfl
theorem dX12_takesLaw_122 : decode cX12_takesLaw 122 = .ok (.aload_n 0, 1) := dk_get dk_d03_411 1 rfl
theorem dX12_takesLaw_123 : decode cX12_takesLaw 123 = .ok (.getfield 262, 3) := dk_get dk_d03_411 2 rfl
theorem dX12_takesLaw_126 : decode cX12_takesLaw 126 = .ok (.imul, 1) := dk_get dk_d03_411 3 rfl
theorem dX12_takesLaw_127 : decode cX12_takesLaw 127 = .ok (.iload_n 2, 1) := dk_get dk_d03_411 4 rfl
theorem dX12_takesLaw_128 : decode cX12_takesLaw 128 = .ok (.iadd, 1) := dk_get dk_d03_411 5 rfl
theorem dX12_takesLaw_129 : decode cX12_takesLaw 129 = .ok (.aload_n 0, 1) := dk_get dk_d03_411 6 rfl
theorem dX12_takesLaw_130 : decode cX12_takesLaw 130 = .ok (.getfield 52, 3) := dk_get dk_d03_411 7 rfl
theorem dX12_takesLaw_133 : decode cX12_takesLaw 133 = .ok (.sipush 800, 3) := dk_get dk_d03_411 8 rfl
theorem dX12_takesLaw_136 : decode cX12_takesLaw 136 = .ok (.iload_n 2, 1) := dk_get dk_d03_411 9 rfl
theorem dX12_takesLaw_137 : decode cX12_takesLaw 137 = .ok (.iadd, 1) := dk_get dk_d03_411 10 rfl
theorem dX12_takesLaw_138 : decode cX12_takesLaw 138 = .ok (.iaload, 1) := dk_get dk_d03_411 11 rfl
theorem dX12_takesLaw_139 : decode cX12_takesLaw 139 = .ok (.iastore, 1) := dk_get dk_d03_411 12 rfl
theorem dX12_takesLaw_140 : decode cX12_takesLaw 140 = .ok (.aload_n 0, 1) := dk_get dk_d03_411 13 rfl
theorem dX12_takesLaw_141 : decode cX12_takesLaw 141 = .ok (.getfield 55, 3) := dk_get dk_d03_411 14 rfl
theorem dX12_takesLaw_144 : decode cX12_takesLaw 144 = .ok (.sipush 400, 3) := dk_get dk_d03_411 15 rfl
theorem dX12_takesLaw_147 : decode cX12_takesLaw 147 = .ok (.aload_n 0, 1) := dk_get dk_d03_411 16 rfl
theorem dX12_takesLaw_148 : decode cX12_takesLaw 148 = .ok (.getfield 262, 3) := dk_get dk_d03_411 17 rfl
theorem dX12_takesLaw_151 : decode cX12_takesLaw 151 = .ok (.imul, 1) := dk_get dk_d03_411 18 rfl
theorem dX12_takesLaw_152 : decode cX12_takesLaw 152 = .ok (.iload_n 2, 1) := dk_get dk_d03_411 19 rfl
theorem dX12_takesLaw_153 : decode cX12_takesLaw 153 = .ok (.iadd, 1) := dk_get dk_d03_411 20 rfl
theorem dX12_takesLaw_154 : decode cX12_takesLaw 154 = .ok (.aload_n 0, 1) := dk_get dk_d03_411 21 rfl
theorem dX12_takesLaw_155 : decode cX12_takesLaw 155 = .ok (.getfield 55, 3) := dk_get dk_d03_411 22 rfl
theorem dX12_takesLaw_158 : decode cX12_takesLaw 158 = .ok (.sipush 800, 3) := dk_get dk_d03_411 23 rfl
theorem dX12_takesLaw_161 : decode cX12_takesLaw 161 = .ok (.iload_n 2, 1) := dk_get dk_d03_411 24 rfl
theorem dk_d03_412 : dkc cX12_takesLaw [(162, .iadd, 1), (163, .iaload, 1), (164, .iastore, 1), (165, .iinc 2 1, 3), (168, .goto (-61), 3), (171, .aload_n 0, 1), (172, .getfield 37, 3), (175, .aload_n 0, 1), (176, .getfield 262, 3), (179, .iload_n 1, 1), (180, .iastore, 1), (181, .return_, 1)] = true := by decide +kernel
theorem dX12_takesLaw_162 : decode cX12_takesLaw 162 = .ok (.iadd, 1) := dk_get dk_d03_412 0 rfl
theorem dX12_takesLaw_163 : decode cX12_takesLaw 163 = .ok (.iaload, 1) := dk_get dk_d03_412 1 rfl
theorem dX12_takesLaw_164 : decode cX12_takesLaw 164 = .ok (.iastore, 1) := dk_get dk_d03_412 2 rfl
theorem dX12_takesLaw_165 : decode cX12_takesLaw 165 = .ok (.iinc 2 1, 3) := dk_get dk_d03_412 3 rfl
theorem dX12_takesLaw_168 : decode cX12_takesLaw 168 = .ok (.goto (-61), 3) := dk_get dk_d03_412 4 rfl
theorem dX12_takesLaw_171 : decode cX12_takesLaw 171 = .ok (.aload_n 0, 1) := dk_get dk_d03_412 5 rfl
theorem dX12_takesLaw_172 : decode cX12_takesLaw 172 = .ok (.getfield 37, 3) := dk_get dk_d03_412 6 rfl
theorem dX12_takesLaw_175 : decode cX12_takesLaw 175 = .ok (.aload_n 0, 1) := dk_get dk_d03_412 7 rfl
theorem dX12_takesLaw_176 : decode cX12_takesLaw 176 = .ok (.getfield 262, 3) := dk_get dk_d03_412 8 rfl
theorem dX12_takesLaw_179 : decode cX12_takesLaw 179 = .ok (.iload_n 1, 1) := dk_get dk_d03_412 9 rfl
theorem dX12_takesLaw_180 : decode cX12_takesLaw 180 = .ok (.iastore, 1) := dk_get dk_d03_412 10 rfl
theorem dX12_takesLaw_181 : decode cX12_takesLaw 181 = .ok (.return_, 1) := dk_get dk_d03_412 11 rfl
theorem dk_d03_413 : dkc cX12_readNumber [(0, .aload_n 0, 1), (1, .getfield 183, 3), (4, .iconst 3, 1), (5, .if_icmp .eq 9, 3), (8, .aload_n 0, 1), (9, .iconst 1, 1), (10, .invokevirtual 214, 3), (13, .ireturn, 1), (14, .aload_n 0, 1), (15, .aload_n 0, 1), (16, .getfield 186, 3), (19, .iload_n 1, 1), (20, .iload_n 2, 1), (21, .invokevirtual 155, 3), (24, .ifCond .ne 9, 3), (27, .aload_n 0, 1), (28, .iconst 2, 1), (29, .invokevirtual 214, 3), (32, .ireturn, 1), (33, .aload_n 0, 1), (34, .getfield 186, 3), (37, .istore_n 3, 1), (38, .aload_n 0, 1), (39, .invokevirtual 221, 3), (42, .iload_n 3, 1)] = true := by decide +kernel
theorem dX12_readNumber_0 : decode cX12_readNumber 0 = .ok (.aload_n 0, 1) := dk_get dk_d03_413 0 rfl
theorem dX12_readNumber_1 : decode cX12_readNumber 1 = .ok (.getfield 183, 3) := dk_get dk_d03_413 1 rfl
theorem dX12_readNumber_4 : decode cX12_readNumber 4 = .ok (.iconst 3, 1) := dk_get dk_d03_413 2 rfl
theorem dX12_readNumber_5 : decode cX12_readNumber 5 = .ok (.if_icmp .eq 9, 3) := dk_get dk_d03_413 3 rfl
theorem dX12_readNumber_8 : decode cX12_readNumber 8 = .ok (.aload_n 0, 1) := dk_get dk_d03_413 4 rfl
theorem dX12_readNumber_9 : decode cX12_readNumber 9 = .ok (.iconst 1, 1) := dk_get dk_d03_413 5 rfl
theorem dX12_readNumber_10 : decode cX12_readNumber 10 = .ok (.invokevirtual 214, 3) := dk_get dk_d03_413 6 rfl
theorem dX12_readNumber_13 : decode cX12_readNumber 13 = .ok (.ireturn, 1) := dk_get dk_d03_413 7 rfl
theorem dX12_readNumber_14 : decode cX12_readNumber 14 = .ok (.aload_n 0, 1) := dk_get dk_d03_413 8 rfl
theorem dX12_readNumber_15 : decode cX12_readNumber 15 = .ok (.aload_n 0, 1) := dk_get dk_d03_413 9 rfl
theorem dX12_readNumber_16 : decode cX12_readNumber 16 = .ok (.getfield 186, 3) := dk_get dk_d03_413 10 rfl
theorem dX12_readNumber_19 : decode cX12_readNumber 19 = .ok (.iload_n 1, 1) := dk_get dk_d03_413 11 rfl
theorem dX12_readNumber_20 : decode cX12_readNumber 20 = .ok (.iload_n 2, 1) := dk_get dk_d03_413 12 rfl
theorem dX12_readNumber_21 : decode cX12_readNumber 21 = .ok (.invokevirtual 155, 3) := dk_get dk_d03_413 13 rfl
theorem dX12_readNumber_24 : decode cX12_readNumber 24 = .ok (.ifCond .ne 9, 3) := dk_get dk_d03_413 14 rfl
theorem dX12_readNumber_27 : decode cX12_readNumber 27 = .ok (.aload_n 0, 1) := dk_get dk_d03_413 15 rfl
theorem dX12_readNumber_28 : decode cX12_readNumber 28 = .ok (.iconst 2, 1) := dk_get dk_d03_413 16 rfl
theorem dX12_readNumber_29 : decode cX12_readNumber 29 = .ok (.invokevirtual 214, 3) := dk_get dk_d03_413 17 rfl
theorem dX12_readNumber_32 : decode cX12_readNumber 32 = .ok (.ireturn, 1) := dk_get dk_d03_413 18 rfl
theorem dX12_readNumber_33 : decode cX12_readNumber 33 = .ok (.aload_n 0, 1) := dk_get dk_d03_413 19 rfl
theorem dX12_readNumber_34 : decode cX12_readNumber 34 = .ok (.getfield 186, 3) := dk_get dk_d03_413 20 rfl
theorem dX12_readNumber_37 : decode cX12_readNumber 37 = .ok (.istore_n 3, 1) := dk_get dk_d03_413 21 rfl
theorem dX12_readNumber_38 : decode cX12_readNumber 38 = .ok (.aload_n 0, 1) := dk_get dk_d03_413 22 rfl
theorem dX12_readNumber_39 : decode cX12_readNumber 39 = .ok (.invokevirtual 221, 3) := dk_get dk_d03_413 23 rfl
theorem dX12_readNumber_42 : decode cX12_readNumber 42 = .ok (.iload_n 3, 1) := dk_get dk_d03_413 24 rfl
theorem dk_d03_414 : dkc cX12_readNumber [(43, .ireturn, 1)] = true := by decide +kernel
theorem dX12_readNumber_43 : decode cX12_readNumber 43 = .ok (.ireturn, 1) := dk_get dk_d03_414 0 rfl
theorem dk_d03_415 : dkc cX12_readMark [(0, .aload_n 0, 1), (1, .iload_n 1, 1), (2, .invokevirtual 228, 3), (5, .ifCond .ne 9, 3), (8, .aload_n 0, 1), (9, .iconst 1, 1), (10, .invokevirtual 214, 3), (13, .ireturn, 1), (14, .aload_n 0, 1), (15, .invokevirtual 221, 3), (18, .iconst 0, 1), (19, .ireturn, 1)] = true := by decide +kernel
theorem dX12_readMark_0 : decode cX12_readMark 0 = .ok (.aload_n 0, 1) := dk_get dk_d03_415 0 rfl
theorem dX12_readMark_1 : decode cX12_readMark 1 = .ok (.iload_n 1, 1) := dk_get dk_d03_415 1 rfl
theorem dX12_readMark_2 : decode cX12_readMark 2 = .ok (.invokevirtual 228, 3) := dk_get dk_d03_415 2 rfl
theorem dX12_readMark_5 : decode cX12_readMark 5 = .ok (.ifCond .ne 9, 3) := dk_get dk_d03_415 3 rfl
theorem dX12_readMark_8 : decode cX12_readMark 8 = .ok (.aload_n 0, 1) := dk_get dk_d03_415 4 rfl
theorem dX12_readMark_9 : decode cX12_readMark 9 = .ok (.iconst 1, 1) := dk_get dk_d03_415 5 rfl
theorem dX12_readMark_10 : decode cX12_readMark 10 = .ok (.invokevirtual 214, 3) := dk_get dk_d03_415 6 rfl
theorem dX12_readMark_13 : decode cX12_readMark 13 = .ok (.ireturn, 1) := dk_get dk_d03_415 7 rfl
theorem dX12_readMark_14 : decode cX12_readMark 14 = .ok (.aload_n 0, 1) := dk_get dk_d03_415 8 rfl
theorem dX12_readMark_15 : decode cX12_readMark 15 = .ok (.invokevirtual 221, 3) := dk_get dk_d03_415 9 rfl
theorem dX12_readMark_18 : decode cX12_readMark 18 = .ok (.iconst 0, 1) := dk_get dk_d03_415 10 rfl
theorem dX12_readMark_19 : decode cX12_readMark 19 = .ok (.ireturn, 1) := dk_get dk_d03_415 11 rfl
theorem dk_d03_416 : dkc cX12_readTold [(0, .aload_n 0, 1), (1, .iload_n 1, 1), (2, .invokevirtual 243, 3), (5, .ifCond .ne 9, 3), (8, .aload_n 0, 1), (9, .iconst 1, 1), (10, .invokevirtual 214, 3), (13, .ireturn, 1), (14, .aload_n 0, 1), (15, .invokevirtual 221, 3), (18, .aload_n 0, 1), (19, .iload_n 2, 1), (20, .iload_n 3, 1), (21, .invokevirtual 265, 3), (24, .ireturn, 1)] = true := by decide +kernel
theorem dX12_readTold_0 : decode cX12_readTold 0 = .ok (.aload_n 0, 1) := dk_get dk_d03_416 0 rfl
theorem dX12_readTold_1 : decode cX12_readTold 1 = .ok (.iload_n 1, 1) := dk_get dk_d03_416 1 rfl
theorem dX12_readTold_2 : decode cX12_readTold 2 = .ok (.invokevirtual 243, 3) := dk_get dk_d03_416 2 rfl
theorem dX12_readTold_5 : decode cX12_readTold 5 = .ok (.ifCond .ne 9, 3) := dk_get dk_d03_416 3 rfl
theorem dX12_readTold_8 : decode cX12_readTold 8 = .ok (.aload_n 0, 1) := dk_get dk_d03_416 4 rfl
theorem dX12_readTold_9 : decode cX12_readTold 9 = .ok (.iconst 1, 1) := dk_get dk_d03_416 5 rfl
theorem dX12_readTold_10 : decode cX12_readTold 10 = .ok (.invokevirtual 214, 3) := dk_get dk_d03_416 6 rfl
theorem dX12_readTold_13 : decode cX12_readTold 13 = .ok (.ireturn, 1) := dk_get dk_d03_416 7 rfl
theorem dX12_readTold_14 : decode cX12_readTold 14 = .ok (.aload_n 0, 1) := dk_get dk_d03_416 8 rfl
theorem dX12_readTold_15 : decode cX12_readTold 15 = .ok (.invokevirtual 221, 3) := dk_get dk_d03_416 9 rfl
theorem dX12_readTold_18 : decode cX12_readTold 18 = .ok (.aload_n 0, 1) := dk_get dk_d03_416 10 rfl
theorem dX12_readTold_19 : decode cX12_readTold 19 = .ok (.iload_n 2, 1) := dk_get dk_d03_416 11 rfl
theorem dX12_readTold_20 : decode cX12_readTold 20 = .ok (.iload_n 3, 1) := dk_get dk_d03_416 12 rfl
theorem dX12_readTold_21 : decode cX12_readTold 21 = .ok (.invokevirtual 265, 3) := dk_get dk_d03_416 13 rfl
theorem dX12_readTold_24 : decode cX12_readTold 24 = .ok (.ireturn, 1) := dk_get dk_d03_416 14 rfl
theorem dk_d03_417 : dkc cX12_readWay [(0, .aload_n 0, 1), (1, .getfield 65, 3), (4, .iload_n 1, 1), (5, .aload_n 0, 1), (6, .bipush 17, 2), (8, .iconst 0, 1), (9, .aload_n 0, 1), (10, .getfield 152, 3), (13, .iconst 1, 1), (14, .isub, 1), (15, .invokevirtual 268, 3), (18, .iastore, 1), (19, .aload_n 0, 1), (20, .getfield 65, 3), (23, .iload_n 1, 1), (24, .iaload, 1), (25, .iconst (-1), 1), (26, .if_icmp .ne 5, 3), (29, .iconst (-1), 1), (30, .ireturn, 1), (31, .aload_n 0, 1), (32, .getfield 65, 3), (35, .iload_n 1, 1), (36, .iconst 1, 1), (37, .iadd, 1)] = true := by decide +kernel
theorem dX12_readWay_0 : decode cX12_readWay 0 = .ok (.aload_n 0, 1) := dk_get dk_d03_417 0 rfl
theorem dX12_readWay_1 : decode cX12_readWay 1 = .ok (.getfield 65, 3) := dk_get dk_d03_417 1 rfl
theorem dX12_readWay_4 : decode cX12_readWay 4 = .ok (.iload_n 1, 1) := dk_get dk_d03_417 2 rfl
theorem dX12_readWay_5 : decode cX12_readWay 5 = .ok (.aload_n 0, 1) := dk_get dk_d03_417 3 rfl
theorem dX12_readWay_6 : decode cX12_readWay 6 = .ok (.bipush 17, 2) := dk_get dk_d03_417 4 rfl
theorem dX12_readWay_8 : decode cX12_readWay 8 = .ok (.iconst 0, 1) := dk_get dk_d03_417 5 rfl
theorem dX12_readWay_9 : decode cX12_readWay 9 = .ok (.aload_n 0, 1) := dk_get dk_d03_417 6 rfl
theorem dX12_readWay_10 : decode cX12_readWay 10 = .ok (.getfield 152, 3) := dk_get dk_d03_417 7 rfl
theorem dX12_readWay_13 : decode cX12_readWay 13 = .ok (.iconst 1, 1) := dk_get dk_d03_417 8 rfl
theorem dX12_readWay_14 : decode cX12_readWay 14 = .ok (.isub, 1) := dk_get dk_d03_417 9 rfl
theorem dX12_readWay_15 : decode cX12_readWay 15 = .ok (.invokevirtual 268, 3) := dk_get dk_d03_417 10 rfl
theorem dX12_readWay_18 : decode cX12_readWay 18 = .ok (.iastore, 1) := dk_get dk_d03_417 11 rfl
theorem dX12_readWay_19 : decode cX12_readWay 19 = .ok (.aload_n 0, 1) := dk_get dk_d03_417 12 rfl
theorem dX12_readWay_20 : decode cX12_readWay 20 = .ok (.getfield 65, 3) := dk_get dk_d03_417 13 rfl
theorem dX12_readWay_23 : decode cX12_readWay 23 = .ok (.iload_n 1, 1) := dk_get dk_d03_417 14 rfl
theorem dX12_readWay_24 : decode cX12_readWay 24 = .ok (.iaload, 1) := dk_get dk_d03_417 15 rfl
theorem dX12_readWay_25 : decode cX12_readWay 25 = .ok (.iconst (-1), 1) := dk_get dk_d03_417 16 rfl
theorem dX12_readWay_26 : decode cX12_readWay 26 = .ok (.if_icmp .ne 5, 3) := dk_get dk_d03_417 17 rfl
theorem dX12_readWay_29 : decode cX12_readWay 29 = .ok (.iconst (-1), 1) := dk_get dk_d03_417 18 rfl
theorem dX12_readWay_30 : decode cX12_readWay 30 = .ok (.ireturn, 1) := dk_get dk_d03_417 19 rfl
theorem dX12_readWay_31 : decode cX12_readWay 31 = .ok (.aload_n 0, 1) := dk_get dk_d03_417 20 rfl
theorem dX12_readWay_32 : decode cX12_readWay 32 = .ok (.getfield 65, 3) := dk_get dk_d03_417 21 rfl
theorem dX12_readWay_35 : decode cX12_readWay 35 = .ok (.iload_n 1, 1) := dk_get dk_d03_417 22 rfl
theorem dX12_readWay_36 : decode cX12_readWay 36 = .ok (.iconst 1, 1) := dk_get dk_d03_417 23 rfl
theorem dX12_readWay_37 : decode cX12_readWay 37 = .ok (.iadd, 1) := dk_get dk_d03_417 24 rfl
theorem dk_d03_418 : dkc cX12_readWay [(38, .aload_n 0, 1), (39, .bipush 18, 2), (41, .iconst 0, 1), (42, .bipush 11, 2), (44, .invokevirtual 268, 3), (47, .iastore, 1), (48, .aload_n 0, 1), (49, .getfield 65, 3), (52, .iload_n 1, 1), (53, .iconst 1, 1), (54, .iadd, 1), (55, .iaload, 1), (56, .iconst (-1), 1), (57, .if_icmp .ne 5, 3), (60, .iconst (-1), 1), (61, .ireturn, 1), (62, .aload_n 0, 1)] = true := by decide +kernel
theorem dX12_readWay_38 : decode cX12_readWay 38 = .ok (.aload_n 0, 1) := dk_get dk_d03_418 0 rfl
theorem dX12_readWay_39 : decode cX12_readWay 39 = .ok (.bipush 18, 2) := dk_get dk_d03_418 1 rfl
theorem dX12_readWay_41 : decode cX12_readWay 41 = .ok (.iconst 0, 1) := dk_get dk_d03_418 2 rfl
theorem dX12_readWay_42 : decode cX12_readWay 42 = .ok (.bipush 11, 2) := dk_get dk_d03_418 3 rfl
theorem dX12_readWay_44 : decode cX12_readWay 44 = .ok (.invokevirtual 268, 3) := dk_get dk_d03_418 4 rfl
theorem dX12_readWay_47 : decode cX12_readWay 47 = .ok (.iastore, 1) := dk_get dk_d03_418 5 rfl
theorem dX12_readWay_48 : decode cX12_readWay 48 = .ok (.aload_n 0, 1) := dk_get dk_d03_418 6 rfl
theorem dX12_readWay_49 : decode cX12_readWay 49 = .ok (.getfield 65, 3) := dk_get dk_d03_418 7 rfl
theorem dX12_readWay_52 : decode cX12_readWay 52 = .ok (.iload_n 1, 1) := dk_get dk_d03_418 8 rfl
theorem dX12_readWay_53 : decode cX12_readWay 53 = .ok (.iconst 1, 1) := dk_get dk_d03_418 9 rfl
theorem dX12_readWay_54 : decode cX12_readWay 54 = .ok (.iadd, 1) := dk_get dk_d03_418 10 rfl
theorem dX12_readWay_55 : decode cX12_readWay 55 = .ok (.iaload, 1) := dk_get dk_d03_418 11 rfl
theorem dX12_readWay_56 : decode cX12_readWay 56 = .ok (.iconst (-1), 1) := dk_get dk_d03_418 12 rfl
theorem dX12_readWay_57 : decode cX12_readWay 57 = .ok (.if_icmp .ne 5, 3) := dk_get dk_d03_418 13 rfl
theorem dX12_readWay_60 : decode cX12_readWay 60 = .ok (.iconst (-1), 1) := dk_get dk_d03_418 14 rfl
theorem dX12_readWay_61 : decode cX12_readWay 61 = .ok (.ireturn, 1) := dk_get dk_d03_418 15 rfl
theorem dX12_readWay_62 : decode cX12_readWay 62 = .ok (.aload_n 0, 1) := dk_get dk_d03_418 16 rfl
