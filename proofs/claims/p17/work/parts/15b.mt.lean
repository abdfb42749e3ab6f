def MT : MTb := [(1, coX11_order, []),
  (5, coX4_rowsOfAll, [(6, (0, 2, [], 0, 2147483648, 4294967295, [], [])), (50, (0, 3, [], 0, 2147483648, 4294967295, [], [])), (55, (0, 4, [], 0, 2147483648, 4294967295, [], []))]),
  (4, coJ7_fill_53178, [(5, (0, 2, [], 0, 2147483648, 4294967295, [], []))]),
  (2, coX9_item, []),
  (2, coX11_wax, []),
  (3, coX1_sum, [(4, (0, 2, [], 0, 2147483648, 4294967295, [(1, 0, 4294967295)], []))]),
  (2, coX0_marked, []),
  (2, coX0_way, []),
  (2, coX0_mark, []),
  (2, coJ6_compare_7cf53, []),
  (2, coX1_weighs, []),
  (3, coX0_owner, []),
  (4, coX1_layValues, []),
  (4, coX0_trait, []),
  (2, coX0_has, []),
  (2, coX0_depth, []),
  (4, coX0_besides, []),
  (9, coX8_tells, [(2, (0, 5, [], 0, 2147483648, 4294967295, [], []))]),
  (4, coX8_number, []),
  (9, coX8_run, [(6, (0, 6, [], 0, 2147483648, 4294967295, [(5, 2147483648, 2147483680)], []))]),
  (2, coX8_part, []),
  (3, coX8_join, []),
  (2, coX1_held, []),
  (5, coX1_turned, [(8, (0, 2, [], 0, 2147483648, 4294967295, [(1, 0, 4294967295)], [])), (55, (1, 3, [], 0, 0, 2147483747, [(2, 0, 4294967295)], [])), (59, (0, 4, [], 0, 2147483648, 4294967295, [(2, 0, 4294967295)], []))]),
  (2, coX6_blobs, []),
  (8, coX6_pieces, [(8, (0, 7, [], 0, 2147483648, 4294967295, [], [])), (27, (0, 7, [], 0, 2147483648, 4294967295, [(4, 0, 4294967295), (6, 0, 4294967295), (5, 2147483648, 2147483792)], []))]),
  (5, coX6_spread, [(16, (0, 2, [], 0, 2147483648, 4294967295, [], [(0, [], 3)]))]),
  (4, coX6_reach, []),
  (3, coX11_cellAt, []),
  (2, coX6_greatestBlob, []),
  (2, coX6_holes, []),
  (7, coX6_unlike, [(4, (0, 3, [], 0, 2147483648, 4294967295, [(2, 0, 4294967295)], [])), (9, (0, 4, [], 0, 2147483648, 4294967295, [(2, 0, 4294967295)], []))]),
  (6, coX6_bareSquare, [(6, (1, 5, [], 0, 0, 2147483791, [(3, 2147483648, 4294967295), (4, 2147483647, 2147483791)], []))]),
  (2, coX6_squareBehind, []),
  (3, coX11_game, []),
  (7, coX2_lay, []),
  (3, coX2_hasThree, []),
  (1, coX2_valueForNext, []),
  (6, coX2_value, []),
  (3, coX2_recall, []),
  (1, coX2_whoIsNext, []),
  (6, coX2_valueOfMove, []),
  (4, coX2_keepValue, []),
  (3, coX2_firstThatKeeps, []),
  (4, coX12_order, [(5, (0, 1, [], 0, 2147483648, 4294967295, [], [])), (16, (0, 3, [], 0, 2147483648, 4294967295, [(2, 0, 4294967295)], []))]),
  (3, coX12_has, []),
  (2, coX12_wax, []),
  (4, coX12_isIn, []),
  (3, coX12_sumOf, [(4, (0, 2, [], 0, 2147483648, 4294967295, [(1, 0, 4294967295)], []))]),
  (2, coX12_isMarked, []),
  (2, coX12_weighsOf, []),
  (2, coX12_asksOf, []),
  (3, coX12_asks, []),
  (3, coX12_besideOf, []),
  (5, coX12_lawTells, []),
  (3, coX12_lineOf, []),
  (6, coX12_runs, []),
  (4, coX12_twoOf, []),
  (4, coX12_held, []),
  (5, coX12_turned, []),
  (4, coX12_notFace, [(4, (0, 2, [], 0, 2147483648, 4294967295, [(1, 0, 4294967295)], [])), (9, (0, 3, [], 0, 2147483648, 4294967295, [(1, 0, 4294967295)], []))]),
  (4, coX12_bareSquare, [(4, (5, 3, [], 0, 2147483647, 0, [(2, 2147483647, 2147483791)], [])), (6, (9, 0, [], 17, 0, 0, [], [])), (17, (9, 0, [], 59, 0, 0, [], []))]),
  (3, coX12_lesser, []),
  (4, coX12_findsParts, []),
  (5, coX12_holes, [(4, (0, 2, [], 0, 2147483648, 4294967295, [(1, 0, 4294967295)], [])), (22, (0, 4, [], 0, 2147483648, 4294967295, [(3, 2147483648, 2147483649)], []))]),
  (2, coX12_isAtEdge, []),
  (5, coX12_blobs, [(6, (0, 4, [], 0, 2147483648, 4294967295, [(2, 0, 4294967295), (3, 0, 4294967295)], []))]),
  (4, coX12_partOf, [(4, (0, 3, [], 0, 2147483648, 4294967295, [(2, 0, 4294967295)], []))]),
  (3, coX12_greater, []),
  (5, coX12_game, []),
  (3, coX12_isGame, []),
  (5, coX12_takesNine, []),
  (3, coX12_hasThree, []),
  (5, coX12_areThree, []),
  (3, coX12_findsWorth, []),
  (5, coX12_worthNow, []),
  (1, coX12_nextUp, []),
  (4, coX12_powerOf, []),
  (1, coX12_isOver, []),
  (1, coJ6_bitCount_0f7a4, []),
  (5, coX0_alike, [(4, (0, 4, [], 0, 2147483648, 4294967295, [(3, 0, 4294967295)], []))]),
  (3, coX0_cameOfAll, [(4, (0, 2, [], 0, 2147483648, 4294967295, [(1, 0, 4294967295)], []))]),
  (3, coX0_countMarks, [(4, (0, 2, [], 0, 2147483648, 4294967295, [(1, 0, 4294967295)], []))]),
  (1, coX0_drawThousand, []),
  (2, coX0_mayPress, []),
  (6, coX0_nearest, [(6, (0, 4, [], 0, 2147483648, 4294967295, [(2, 2147483647, 4294967294), (3, 2147483648, 2147483657)], []))]),
  (5, coX0_putMark, []),
  (4, coX0_setTrait, []),
  (1, coX0_takeAllMarks, []),
  (2, coX0_takeMark, []),
  (2, coX0_takeOver, []),
  (2, coX0_thinMark, []),
  (3, coX1_comes, []),
  (2, coX1_happens, []),
  (8, coX1_leaveThumb, [(8, (0, 4, [], 0, 2147483648, 4294967295, [], []))]),
  (2, coX1_meltAll, [(2, (0, 1, [], 0, 2147483648, 4294967295, [], []))]),
  (3, coX1_melts, []),
  (4, coX1_note, []),
  (2, coX1_oneHour, []),
  (2, coX1_readDoor, []),
  (4, coX1_skyOfHour, [(7, (0, 2, [], 0, 2147483648, 4294967295, [], []))]),
  (4, coX1_takeAway, []),
  (5, coX1_thumbsOfHour, [(9, (0, 3, [], 0, 2147483648, 4294967295, [(2, 0, 4294967295)], []))]),
  (4, coX3_number, []),
  (2, coX3_takePages, []),
  (7, coX3_write, []),
  (5, coX4_farFromMiddle, [(8, (0, 4, [], 0, 2147483648, 4294967295, [(3, 0, 4294967295)], []))]),
  (4, coX4_goTogether, [(2, (0, 2, [], 0, 2147483648, 4294967295, [], []))]),
  (7, coX4_lastParish, [(4, (0, 4, [], 0, 2147483648, 4294967295, [(3, 0, 4294967295)], []))]),
  (6, coX4_middleOf, [(13, (0, 3, [], 0, 2147483648, 4294967295, [], [])), (20, (0, 5, [], 0, 2147483648, 4294967295, [(4, 0, 4294967295)], []))]),
  (3, coX4_moreThanHalf, [(2, (0, 2, [], 0, 2147483648, 4294967295, [], []))]),
  (9, coX4_mostStacked, [(16, (0, 4, [], 0, 2147483649, 4294967295, [(3, 2147483648, 2147483711)], [])), (26, (0, 5, [], 0, 2147483648, 4294967295, [], []))]),
  (4, coX4_mostTold, [(4, (0, 3, [], 0, 2147483648, 4294967295, [(2, 2147483648, 4294967295)], []))]),
  (7, coX4_parishesFor, [(25, (0, 5, [], 0, 2147483648, 4294967295, [], [])), (46, (0, 5, [], 0, 2147483648, 4294967295, [], [])), (51, (1, 6, [], 0, 0, 2147483664, [], []))]),
  (11, coX4_seatsOf, [(6, (0, 5, [], 0, 2147483648, 4294967295, [], [])), (15, (0, 8, [], 0, 2147483648, 4294967295, [(6, 2147483647, 2147483653), (7, 2147483648, 4294967295)], []))]),
  (9, coX4_shown, [(8, (0, 7, [], 0, 2147483648, 4294967295, [(4, 2147483647, 4294967295), (5, 0, 4294967295), (6, 2147483647, 2147483659)], []))]),
  (7, coX4_sums, [(11, (0, 4, [], 0, 2147483648, 4294967295, [], [])), (27, (1, 6, [], 0, 0, 2147484048, [], [])), (53, (0, 6, [], 0, 2147483648, 4294967295, [(4, 0, 4294967295), (5, 2147483648, 2147484048)], []))]),
  (4, coX4_timesTold, [(4, (0, 3, [], 0, 2147483648, 4294967295, [(2, 0, 4294967295)], []))]),
  (7, coX4_together, [(8, (0, 6, [], 0, 2147483648, 4294967295, [(3, 2147483647, 2147483711), (4, 2147483648, 2147483903), (5, 0, 4294967295)], []))]),
  (3, coX5_bounded, []),
  (1, coX5_digit, []),
  (3, coX5_emit, []),
  (3, coX5_emitUnit, []),
  (1, coX5_lawLine, []),
  (1, coX5_letter, []),
  (2, coX5_mindWord, []),
  (3, coX5_opensLine, []),
  (3, coX5_plainLine, []),
  (3, coX5_put, []),
  (5, coX5_readChoice, [(6, (0, 4, [], 0, 2147483648, 4294967295, [(3, 2147483648, 2147483649), (2, 2147483648, 2147483649)], []))]),
  (4, coX5_readSum, [(6, (0, 3, [], 0, 2147483648, 4294967295, [(1, 2147483648, 2147483653), (2, 2147483648, 2147483695)], []))]),
  (5, coX5_readTape, []),
  (4, coX5_readTest, []),
  (2, coX5_sign, []),
  (1, coX5_skyLine, []),
  (1, coX5_step, [(0, (3, 0, [], 4, 2147483648, 2147484048, [], [])), (46, (3, 0, [], 4, 2147483648, 2147484048, [], [])), (84, (3, 0, [], 4, 2147483648, 2147484048, [], [(0, [], 6)]))]),
  (3, coX5_take, [(2, (1, 2, [], 0, 0, 2147483672, [], [(0, [], 1)]))]),
  (8, coX5_wordOf, []),
  (2, coX5_wrong, []),
  (1, coX7_forget, []),
  (2, coX7_goBack, []),
  (2, coX7_keep, []),
  (2, coX9_add, []),
  (3, coX9_takeList, [(10, (0, 2, [], 0, 2147483648, 4294967295, [], []))]),
  (2, coX10_linesOf, []),
  (3, coX10_takeAll, []),
  (6, coX10_takenFor, [(6, (0, 3, [], 0, 2147483648, 4294967295, [(2, 0, 4294967295)], [])), (13, (0, 5, [], 0, 2147483648, 4294967295, [(4, 0, 4294967295)], []))]),
  (5, coX10_tell, []),
  (7, coX10_twinsOf, [(9, (0, 4, [], 0, 2147483648, 4294967295, [(3, 0, 4294967295)], []))]),
  (3, coX11_before, []),
  (3, coX11_bill, []),
  (2, coX11_bills, []),
  (3, coX11_book, []),
  (2, coX11_candle, []),
  (3, coX11_candles, []),
  (6, coX11_cell, []),
  (2, coX11_could, []),
  (4, coX11_door, []),
  (2, coX11_end, []),
  (2, coX11_fault, []),
  (6, coX11_feed, []),
  (4, coX11_goes, [(21, (0, 3, [], 0, 2147483648, 4294967295, [], []))]),
  (3, coX11_hand, []),
  (4, coX11_hours, [(27, (0, 3, [], 0, 2147483648, 4294967295, [(2, 0, 4294967295)], [(0, [0, 0], 4), (0, [0, 0], 5)]))]),
  (2, coX11_house, []),
  (2, coX11_image, []),
  (3, coX11_lantern, []),
  (4, coX11_lift, []),
  (2, coX11_look, []),
  (2, coX11_middle, []),
  (2, coX11_name, []),
  (3, coX11_of, []),
  (4, coX11_parishes, []),
  (2, coX11_party, []),
  (3, coX11_press, []),
  (5, coX11_seats, []),
  (4, coX11_set, []),
  (1, coX11_stack, []),
  (2, coX11_stands, []),
  (3, coX11_state, []),
  (3, coX11_text, []),
  (2, coX11_traitCan, []),
  (1, coX11_undo, []),
  (2, coX11_unlikeBills, []),
  (7, coX11_voter, []),
  (3, coX11_whose, []),
  (2, coX11_wish, []),
  (3, coX12_apart, []),
  (4, coX12_before, [(11, (0, 3, [], 0, 2147483648, 4294967295, [], []))]),
  (4, coX12_bill, [(11, (0, 3, [], 0, 2147483648, 4294967295, [], []))]),
  (5, coX12_bills, [(17, (0, 4, [], 0, 2147483648, 4294967295, [(2, 2147483648, 2147483903), (3, 0, 4294967295)], []))]),
  (3, coX12_book, []),
  (2, coX12_canAsk, []),
  (2, coX12_canPress, []),
  (4, coX12_canSet, []),
  (2, coX12_candle, []),
  (6, coX12_candles, [(19, (0, 3, [], 0, 2147483648, 4294967295, [], [])), (35, (0, 3, [], 0, 2147483648, 4294967295, [], [])), (41, (1, 4, [], 0, 0, 2147484048, [], [])), (73, (0, 5, [], 0, 2147483648, 4294967295, [(3, 0, 4294967295), (4, 2147483648, 2147484048)], []))]),
  (5, coX12_cell, []),
  (2, coX12_comesOf, []),
  (5, coX12_could, [(15, (0, 3, [], 0, 2147483648, 4294967295, [(2, 0, 4294967295)], [])), (20, (0, 4, [], 0, 2147483648, 4294967295, [(2, 0, 4294967295)], []))]),
  (7, coX12_dearest, [(6, (0, 4, [], 0, 2147483648, 4294967295, [(2, 0, 4294967295), (3, 2147483647, 2147483657)], [])), (13, (0, 6, [], 0, 2147483648, 4294967295, [(5, 0, 4294967295)], []))]),
  (3, coX12_doGoTogether, [(2, (0, 2, [], 0, 2147483648, 4294967295, [], []))]),
  (2, coX12_does, []),
  (3, coX12_door, []),
  (2, coX12_draw, []),
  (3, coX12_emits, []),
  (2, coX12_end, []),
  (2, coX12_endsThought, []),
  (2, coX12_errs, []),
  (3, coX12_evening, [(33, (0, 2, [], 0, 2147483648, 4294967295, [], []))]),
  (2, coX12_fault, []),
  (6, coX12_feed, []),
  (8, coX12_findsParishes, [(26, (0, 6, [], 0, 2147483649, 4294967295, [(3, 0, 4294967295), (4, 0, 4294967295), (5, 0, 4294967295)], []))]),
  (5, coX12_goes, [(21, (0, 3, [], 0, 2147483648, 4294967295, [], [])), (52, (0, 4, [], 0, 2147483648, 4294967295, [(3, 0, 4294967295)], []))]),
  (3, coX12_goesBy, [(0, (9, 0, [], 36, 0, 0, [], [])), (2, (4, 1, [], 5, 0, 2147483728, [], [])), (36, (9, 0, [], 96, 0, 0, [(1, 0, 4294967295)], [])), (40, (4, 2, [], 3, 0, 2147483696, [(1, 0, 4294967295)], [])), (98, (0, 2, [], 0, 2147483648, 4294967295, [], []))]),
  (3, coX12_hand, []),
  (2, coX12_happens, []),
  (4, coX12_hours, [(30, (0, 3, [], 0, 2147483648, 4294967295, [(2, 0, 4294967295)], []))]),
  (2, coX12_house, []),
  (3, coX12_image, []),
  (2, coX12_isBare, []),
  (2, coX12_isDigit, []),
  (2, coX12_isLetter, []),
  (2, coX12_isLifted, []),
  (1, coX12_isLineWord, []),
  (2, coX12_isMarkSign, []),
  (2, coX12_isSign, []),
  (2, coX12_isVoter, []),
  (2, coX12_isWord, []),
  (2, coX12_keeps, []),
  (2, coX12_keepsAhead, []),
  (2, coX12_keepsLaw, []),
  (1, coX12_keepsMany, []),
  (2, coX12_keepsTold, []),
  (7, coX12_lantern, [(25, (0, 6, [], 0, 2147483648, 4294967295, [(3, 0, 4294967295), (4, 2147483647, 2147483659), (5, 0, 4294967295)], []))]),
  (3, coX12_lift, []),
  (2, coX12_look, []),
  (3, coX12_markMany, [(4, (0, 2, [], 0, 2147483648, 4294967295, [(1, 0, 4294967295)], []))]),
  (2, coX12_meltsOf, []),
  (5, coX12_middle, [(34, (0, 4, [], 0, 2147483648, 4294967295, [(3, 0, 4294967295)], []))]),
  (4, coX12_middleOf, []),
  (2, coX12_mightMelt, []),
  (2, coX12_name, []),
  (5, coX12_notes, []),
  (3, coX12_of, []),
  (4, coX12_onesOf, []),
  (5, coX12_parishes, [(23, (0, 3, [], 0, 2147483648, 4294967295, [], [])), (28, (0, 4, [], 0, 2147483648, 4294967295, [], []))]),
  (2, coX12_party, []),
  (3, coX12_press, []),
  (5, coX12_presses, [(2, (0, 3, [], 0, 2147483648, 2147483659, [], []))]),
  (2, coX12_raw, []),
  (4, coX12_readAny, []),
  (2, coX12_readCompared, []),
  (4, coX12_readDeed, []),
  (2, coX12_readHeat, []),
  (3, coX12_readLaw, []),
  (2, coX12_readMark, []),
  (2, coX12_readMind, []),
  (4, coX12_readNumber, []),
  (2, coX12_readProduct, []),
  (2, coX12_readPutty, []),
  (2, coX12_readSky, []),
  (2, coX12_readSum, []),
  (4, coX12_readTold, []),
  (3, coX12_readTwin, []),
  (2, coX12_readTwins, []),
  (2, coX12_readUnit, []),
  (2, coX12_readWay, []),
  (2, coX12_readWays, []),
  (2, coX12_reads, []),
  (2, coX12_readsText, []),
  (7, coX12_seats, [(28, (0, 4, [], 0, 2147483648, 4294967295, [], [])), (41, (0, 4, [], 0, 2147483648, 4294967295, [], [])), (48, (0, 6, [], 0, 2147483649, 4294967295, [(5, 2147483648, 2147483653)], []))]),
  (4, coX12_set, []),
  (2, coX12_settles, []),
  (3, coX12_shareBy, []),
  (5, coX12_stack, [(7, (0, 2, [], 0, 2147483648, 4294967295, [(1, 0, 4294967295)], [])), (17, (0, 4, [], 0, 2147483648, 4294967295, [(3, 0, 4294967295)], [])), (46, (0, 4, [], 0, 2147483648, 4294967295, [], []))]),
  (2, coX12_stands, []),
  (3, coX12_state, []),
  (3, coX12_takesLaw, []),
  (4, coX12_takesOther, []),
  (3, coX12_text, []),
  (2, coX12_thinks, []),
  (3, coX12_types, []),
  (2, coX12_undo, []),
  (5, coX12_voter, []),
  (2, coX12_waits, []),
  (7, coX12_whose, [(23, (0, 5, [], 0, 2147483648, 4294967295, [(3, 2147483648, 4294967295), (4, 2147483647, 2147483667)], []))]),
  (2, coX12_wish, []),
  (6, coX12_wordAt, [])]
def MTQ (k : Nat) (r : Nat × List CO × List (Nat × CU)) : Prop := r.1 = mN k ∧ r.2.1 = (mP k).map cnv ∧ mGd k
def MTL (i : Nat) (l : MTb) : Prop := ∀ k r, nth l k = some r → MTQ (i + k) r
theorem mtn {i : Nat} : MTL i [] := fun _ _ h => by cases h
theorem mtc {i : Nat} {r : Nat × List CO × List (Nat × CU)} {l : MTb} (h1 : MTQ i r) (h2 : MTL (i + 1) l) : MTL i (r :: l) := by
  intro k r' h
  cases k with
  | zero => cases h; exact h1
  | succ k => have := h2 k r' h; rw [show i + 1 + k = i + (k + 1) by omega] at this; exact this
theorem mq0 {cu : List (Nat × CU)} : MTQ 0 (1, coX11_order, cu) := ⟨rfl, cqX11_order.symm, by decide, oX11_order, rfl⟩
theorem mq1 {cu : List (Nat × CU)} : MTQ 1 (5, coX4_rowsOfAll, cu) := ⟨rfl, cqX4_rowsOfAll.symm, by decide, oX4_rowsOfAll, rfl⟩
theorem mq2 {cu : List (Nat × CU)} : MTQ 2 (4, coJ7_fill_53178, cu) := ⟨rfl, cqJ7_fill_53178.symm, by decide, oJ7_fill_53178, rfl⟩
theorem mq3 {cu : List (Nat × CU)} : MTQ 3 (2, coX9_item, cu) := ⟨rfl, cqX9_item.symm, by decide, oX9_item, rfl⟩
theorem mq4 {cu : List (Nat × CU)} : MTQ 4 (2, coX11_wax, cu) := ⟨rfl, cqX11_wax.symm, by decide, oX11_wax, rfl⟩
theorem mq5 {cu : List (Nat × CU)} : MTQ 5 (3, coX1_sum, cu) := ⟨rfl, cqX1_sum.symm, by decide, oX1_sum, rfl⟩
theorem mq6 {cu : List (Nat × CU)} : MTQ 6 (2, coX0_marked, cu) := ⟨rfl, cqX0_marked.symm, by decide, oX0_marked, rfl⟩
theorem mq7 {cu : List (Nat × CU)} : MTQ 7 (2, coX0_way, cu) := ⟨rfl, cqX0_way.symm, by decide, oX0_way, rfl⟩
theorem mq8 {cu : List (Nat × CU)} : MTQ 8 (2, coX0_mark, cu) := ⟨rfl, cqX0_mark.symm, by decide, oX0_mark, rfl⟩
theorem mq9 {cu : List (Nat × CU)} : MTQ 9 (2, coJ6_compare_7cf53, cu) := ⟨rfl, cqJ6_compare_7cf53.symm, by decide, oJ6_compare_7cf53, rfl⟩
theorem mq10 {cu : List (Nat × CU)} : MTQ 10 (2, coX1_weighs, cu) := ⟨rfl, cqX1_weighs.symm, by decide, oX1_weighs, rfl⟩
theorem mq11 {cu : List (Nat × CU)} : MTQ 11 (3, coX0_owner, cu) := ⟨rfl, cqX0_owner.symm, by decide, oX0_owner, rfl⟩
theorem mq12 {cu : List (Nat × CU)} : MTQ 12 (4, coX1_layValues, cu) := ⟨rfl, cqX1_layValues.symm, by decide, oX1_layValues, rfl⟩
theorem mq13 {cu : List (Nat × CU)} : MTQ 13 (4, coX0_trait, cu) := ⟨rfl, cqX0_trait.symm, by decide, oX0_trait, rfl⟩
theorem mq14 {cu : List (Nat × CU)} : MTQ 14 (2, coX0_has, cu) := ⟨rfl, cqX0_has.symm, by decide, oX0_has, rfl⟩
theorem mq15 {cu : List (Nat × CU)} : MTQ 15 (2, coX0_depth, cu) := ⟨rfl, cqX0_depth.symm, by decide, oX0_depth, rfl⟩
theorem mq16 {cu : List (Nat × CU)} : MTQ 16 (4, coX0_besides, cu) := ⟨rfl, cqX0_besides.symm, by decide, oX0_besides, rfl⟩
theorem mq17 {cu : List (Nat × CU)} : MTQ 17 (9, coX8_tells, cu) := ⟨rfl, cqX8_tells.symm, by decide, oX8_tells, rfl⟩
theorem mq18 {cu : List (Nat × CU)} : MTQ 18 (4, coX8_number, cu) := ⟨rfl, cqX8_number.symm, by decide, oX8_number, rfl⟩
theorem mq19 {cu : List (Nat × CU)} : MTQ 19 (9, coX8_run, cu) := ⟨rfl, cqX8_run.symm, by decide, oX8_run, rfl⟩
theorem mq20 {cu : List (Nat × CU)} : MTQ 20 (2, coX8_part, cu) := ⟨rfl, cqX8_part.symm, by decide, oX8_part, rfl⟩
theorem mq21 {cu : List (Nat × CU)} : MTQ 21 (3, coX8_join, cu) := ⟨rfl, cqX8_join.symm, by decide, oX8_join, rfl⟩
theorem mq22 {cu : List (Nat × CU)} : MTQ 22 (2, coX1_held, cu) := ⟨rfl, cqX1_held.symm, by decide, oX1_held, rfl⟩
theorem mq23 {cu : List (Nat × CU)} : MTQ 23 (5, coX1_turned, cu) := ⟨rfl, cqX1_turned.symm, by decide, oX1_turned, rfl⟩
theorem mq24 {cu : List (Nat × CU)} : MTQ 24 (2, coX6_blobs, cu) := ⟨rfl, cqX6_blobs.symm, by decide, oX6_blobs, rfl⟩
theorem mq25 {cu : List (Nat × CU)} : MTQ 25 (8, coX6_pieces, cu) := ⟨rfl, cqX6_pieces.symm, by decide, oX6_pieces, rfl⟩
theorem mq26 {cu : List (Nat × CU)} : MTQ 26 (5, coX6_spread, cu) := ⟨rfl, cqX6_spread.symm, by decide, oX6_spread, rfl⟩
theorem mq27 {cu : List (Nat × CU)} : MTQ 27 (4, coX6_reach, cu) := ⟨rfl, cqX6_reach.symm, by decide, oX6_reach, rfl⟩
theorem mq28 {cu : List (Nat × CU)} : MTQ 28 (3, coX11_cellAt, cu) := ⟨rfl, cqX11_cellAt.symm, by decide, oX11_cellAt, rfl⟩
theorem mq29 {cu : List (Nat × CU)} : MTQ 29 (2, coX6_greatestBlob, cu) := ⟨rfl, cqX6_greatestBlob.symm, by decide, oX6_greatestBlob, rfl⟩
theorem mq30 {cu : List (Nat × CU)} : MTQ 30 (2, coX6_holes, cu) := ⟨rfl, cqX6_holes.symm, by decide, oX6_holes, rfl⟩
theorem mq31 {cu : List (Nat × CU)} : MTQ 31 (7, coX6_unlike, cu) := ⟨rfl, cqX6_unlike.symm, by decide, oX6_unlike, rfl⟩
theorem mq32 {cu : List (Nat × CU)} : MTQ 32 (6, coX6_bareSquare, cu) := ⟨rfl, cqX6_bareSquare.symm, by decide, oX6_bareSquare, rfl⟩
theorem mq33 {cu : List (Nat × CU)} : MTQ 33 (2, coX6_squareBehind, cu) := ⟨rfl, cqX6_squareBehind.symm, by decide, oX6_squareBehind, rfl⟩
theorem mq34 {cu : List (Nat × CU)} : MTQ 34 (3, coX11_game, cu) := ⟨rfl, cqX11_game.symm, by decide, oX11_game, rfl⟩
theorem mq35 {cu : List (Nat × CU)} : MTQ 35 (7, coX2_lay, cu) := ⟨rfl, cqX2_lay.symm, by decide, oX2_lay, rfl⟩
theorem mq36 {cu : List (Nat × CU)} : MTQ 36 (3, coX2_hasThree, cu) := ⟨rfl, cqX2_hasThree.symm, by decide, oX2_hasThree, rfl⟩
theorem mq37 {cu : List (Nat × CU)} : MTQ 37 (1, coX2_valueForNext, cu) := ⟨rfl, cqX2_valueForNext.symm, by decide, oX2_valueForNext, rfl⟩
theorem mq38 {cu : List (Nat × CU)} : MTQ 38 (6, coX2_value, cu) := ⟨rfl, cqX2_value.symm, by decide, oX2_value, rfl⟩
theorem mq39 {cu : List (Nat × CU)} : MTQ 39 (3, coX2_recall, cu) := ⟨rfl, cqX2_recall.symm, by decide, oX2_recall, rfl⟩
theorem mq40 {cu : List (Nat × CU)} : MTQ 40 (1, coX2_whoIsNext, cu) := ⟨rfl, cqX2_whoIsNext.symm, by decide, oX2_whoIsNext, rfl⟩
theorem mq41 {cu : List (Nat × CU)} : MTQ 41 (6, coX2_valueOfMove, cu) := ⟨rfl, cqX2_valueOfMove.symm, by decide, oX2_valueOfMove, rfl⟩
theorem mq42 {cu : List (Nat × CU)} : MTQ 42 (4, coX2_keepValue, cu) := ⟨rfl, cqX2_keepValue.symm, by decide, oX2_keepValue, rfl⟩
theorem mq43 {cu : List (Nat × CU)} : MTQ 43 (3, coX2_firstThatKeeps, cu) := ⟨rfl, cqX2_firstThatKeeps.symm, by decide, oX2_firstThatKeeps, rfl⟩
theorem mq44 {cu : List (Nat × CU)} : MTQ 44 (4, coX12_order, cu) := ⟨rfl, cqX12_order.symm, by decide, oX12_order, rfl⟩
theorem mq45 {cu : List (Nat × CU)} : MTQ 45 (3, coX12_has, cu) := ⟨rfl, cqX12_has.symm, by decide, oX12_has, rfl⟩
theorem mq46 {cu : List (Nat × CU)} : MTQ 46 (2, coX12_wax, cu) := ⟨rfl, cqX12_wax.symm, by decide, oX12_wax, rfl⟩
theorem mq47 {cu : List (Nat × CU)} : MTQ 47 (4, coX12_isIn, cu) := ⟨rfl, cqX12_isIn.symm, by decide, oX12_isIn, rfl⟩
theorem mq48 {cu : List (Nat × CU)} : MTQ 48 (3, coX12_sumOf, cu) := ⟨rfl, cqX12_sumOf.symm, by decide, oX12_sumOf, rfl⟩
theorem mq49 {cu : List (Nat × CU)} : MTQ 49 (2, coX12_isMarked, cu) := ⟨rfl, cqX12_isMarked.symm, by decide, oX12_isMarked, rfl⟩
theorem mq50 {cu : List (Nat × CU)} : MTQ 50 (2, coX12_weighsOf, cu) := ⟨rfl, cqX12_weighsOf.symm, by decide, oX12_weighsOf, rfl⟩
theorem mq51 {cu : List (Nat × CU)} : MTQ 51 (2, coX12_asksOf, cu) := ⟨rfl, cqX12_asksOf.symm, by decide, oX12_asksOf, rfl⟩
theorem mq52 {cu : List (Nat × CU)} : MTQ 52 (3, coX12_asks, cu) := ⟨rfl, cqX12_asks.symm, by decide, oX12_asks, rfl⟩
theorem mq53 {cu : List (Nat × CU)} : MTQ 53 (3, coX12_besideOf, cu) := ⟨rfl, cqX12_besideOf.symm, by decide, oX12_besideOf, rfl⟩
theorem mq54 {cu : List (Nat × CU)} : MTQ 54 (5, coX12_lawTells, cu) := ⟨rfl, cqX12_lawTells.symm, by decide, oX12_lawTells, rfl⟩
theorem mq55 {cu : List (Nat × CU)} : MTQ 55 (3, coX12_lineOf, cu) := ⟨rfl, cqX12_lineOf.symm, by decide, oX12_lineOf, rfl⟩
theorem mq56 {cu : List (Nat × CU)} : MTQ 56 (6, coX12_runs, cu) := ⟨rfl, cqX12_runs.symm, by decide, oX12_runs, rfl⟩
theorem mq57 {cu : List (Nat × CU)} : MTQ 57 (4, coX12_twoOf, cu) := ⟨rfl, cqX12_twoOf.symm, by decide, oX12_twoOf, rfl⟩
theorem mq58 {cu : List (Nat × CU)} : MTQ 58 (4, coX12_held, cu) := ⟨rfl, cqX12_held.symm, by decide, oX12_held, rfl⟩
theorem mq59 {cu : List (Nat × CU)} : MTQ 59 (5, coX12_turned, cu) := ⟨rfl, cqX12_turned.symm, by decide, oX12_turned, rfl⟩
theorem mq60 {cu : List (Nat × CU)} : MTQ 60 (4, coX12_notFace, cu) := ⟨rfl, cqX12_notFace.symm, by decide, oX12_notFace, rfl⟩
theorem mq61 {cu : List (Nat × CU)} : MTQ 61 (4, coX12_bareSquare, cu) := ⟨rfl, cqX12_bareSquare.symm, by decide, oX12_bareSquare, rfl⟩
theorem mq62 {cu : List (Nat × CU)} : MTQ 62 (3, coX12_lesser, cu) := ⟨rfl, cqX12_lesser.symm, by decide, oX12_lesser, rfl⟩
theorem mq63 {cu : List (Nat × CU)} : MTQ 63 (4, coX12_findsParts, cu) := ⟨rfl, cqX12_findsParts.symm, by decide, oX12_findsParts, rfl⟩
theorem mq64 {cu : List (Nat × CU)} : MTQ 64 (5, coX12_holes, cu) := ⟨rfl, cqX12_holes.symm, by decide, oX12_holes, rfl⟩
theorem mq65 {cu : List (Nat × CU)} : MTQ 65 (2, coX12_isAtEdge, cu) := ⟨rfl, cqX12_isAtEdge.symm, by decide, oX12_isAtEdge, rfl⟩
theorem mq66 {cu : List (Nat × CU)} : MTQ 66 (5, coX12_blobs, cu) := ⟨rfl, cqX12_blobs.symm, by decide, oX12_blobs, rfl⟩
theorem mq67 {cu : List (Nat × CU)} : MTQ 67 (4, coX12_partOf, cu) := ⟨rfl, cqX12_partOf.symm, by decide, oX12_partOf, rfl⟩
theorem mq68 {cu : List (Nat × CU)} : MTQ 68 (3, coX12_greater, cu) := ⟨rfl, cqX12_greater.symm, by decide, oX12_greater, rfl⟩
theorem mq69 {cu : List (Nat × CU)} : MTQ 69 (5, coX12_game, cu) := ⟨rfl, cqX12_game.symm, by decide, oX12_game, rfl⟩
theorem mq70 {cu : List (Nat × CU)} : MTQ 70 (3, coX12_isGame, cu) := ⟨rfl, cqX12_isGame.symm, by decide, oX12_isGame, rfl⟩
theorem mq71 {cu : List (Nat × CU)} : MTQ 71 (5, coX12_takesNine, cu) := ⟨rfl, cqX12_takesNine.symm, by decide, oX12_takesNine, rfl⟩
theorem mq72 {cu : List (Nat × CU)} : MTQ 72 (3, coX12_hasThree, cu) := ⟨rfl, cqX12_hasThree.symm, by decide, oX12_hasThree, rfl⟩
theorem mq73 {cu : List (Nat × CU)} : MTQ 73 (5, coX12_areThree, cu) := ⟨rfl, cqX12_areThree.symm, by decide, oX12_areThree, rfl⟩
theorem mq74 {cu : List (Nat × CU)} : MTQ 74 (3, coX12_findsWorth, cu) := ⟨rfl, cqX12_findsWorth.symm, by decide, oX12_findsWorth, rfl⟩
theorem mq75 {cu : List (Nat × CU)} : MTQ 75 (5, coX12_worthNow, cu) := ⟨rfl, cqX12_worthNow.symm, by decide, oX12_worthNow, rfl⟩
theorem mq76 {cu : List (Nat × CU)} : MTQ 76 (1, coX12_nextUp, cu) := ⟨rfl, cqX12_nextUp.symm, by decide, oX12_nextUp, rfl⟩
theorem mq77 {cu : List (Nat × CU)} : MTQ 77 (4, coX12_powerOf, cu) := ⟨rfl, cqX12_powerOf.symm, by decide, oX12_powerOf, rfl⟩
theorem mq78 {cu : List (Nat × CU)} : MTQ 78 (1, coX12_isOver, cu) := ⟨rfl, cqX12_isOver.symm, by decide, oX12_isOver, rfl⟩
theorem mq79 {cu : List (Nat × CU)} : MTQ 79 (1, coJ6_bitCount_0f7a4, cu) := ⟨rfl, cqJ6_bitCount_0f7a4.symm, by decide, oJ6_bitCount_0f7a4, rfl⟩
theorem mq80 {cu : List (Nat × CU)} : MTQ 80 (5, coX0_alike, cu) := ⟨rfl, cqX0_alike.symm, by decide, oX0_alike, rfl⟩
theorem mq81 {cu : List (Nat × CU)} : MTQ 81 (3, coX0_cameOfAll, cu) := ⟨rfl, cqX0_cameOfAll.symm, by decide, oX0_cameOfAll, rfl⟩
theorem mq82 {cu : List (Nat × CU)} : MTQ 82 (3, coX0_countMarks, cu) := ⟨rfl, cqX0_countMarks.symm, by decide, oX0_countMarks, rfl⟩
theorem mq83 {cu : List (Nat × CU)} : MTQ 83 (1, coX0_drawThousand, cu) := ⟨rfl, cqX0_drawThousand.symm, by decide, oX0_drawThousand, rfl⟩
theorem mq84 {cu : List (Nat × CU)} : MTQ 84 (2, coX0_mayPress, cu) := ⟨rfl, cqX0_mayPress.symm, by decide, oX0_mayPress, rfl⟩
theorem mq85 {cu : List (Nat × CU)} : MTQ 85 (6, coX0_nearest, cu) := ⟨rfl, cqX0_nearest.symm, by decide, oX0_nearest, rfl⟩
theorem mq86 {cu : List (Nat × CU)} : MTQ 86 (5, coX0_putMark, cu) := ⟨rfl, cqX0_putMark.symm, by decide, oX0_putMark, rfl⟩
theorem mq87 {cu : List (Nat × CU)} : MTQ 87 (4, coX0_setTrait, cu) := ⟨rfl, cqX0_setTrait.symm, by decide, oX0_setTrait, rfl⟩
theorem mq88 {cu : List (Nat × CU)} : MTQ 88 (1, coX0_takeAllMarks, cu) := ⟨rfl, cqX0_takeAllMarks.symm, by decide, oX0_takeAllMarks, rfl⟩
theorem mq89 {cu : List (Nat × CU)} : MTQ 89 (2, coX0_takeMark, cu) := ⟨rfl, cqX0_takeMark.symm, by decide, oX0_takeMark, rfl⟩
theorem mq90 {cu : List (Nat × CU)} : MTQ 90 (2, coX0_takeOver, cu) := ⟨rfl, cqX0_takeOver.symm, by decide, oX0_takeOver, rfl⟩
theorem mq91 {cu : List (Nat × CU)} : MTQ 91 (2, coX0_thinMark, cu) := ⟨rfl, cqX0_thinMark.symm, by decide, oX0_thinMark, rfl⟩
theorem mq92 {cu : List (Nat × CU)} : MTQ 92 (3, coX1_comes, cu) := ⟨rfl, cqX1_comes.symm, by decide, oX1_comes, rfl⟩
theorem mq93 {cu : List (Nat × CU)} : MTQ 93 (2, coX1_happens, cu) := ⟨rfl, cqX1_happens.symm, by decide, oX1_happens, rfl⟩
theorem mq94 {cu : List (Nat × CU)} : MTQ 94 (8, coX1_leaveThumb, cu) := ⟨rfl, cqX1_leaveThumb.symm, by decide, oX1_leaveThumb, rfl⟩
theorem mq95 {cu : List (Nat × CU)} : MTQ 95 (2, coX1_meltAll, cu) := ⟨rfl, cqX1_meltAll.symm, by decide, oX1_meltAll, rfl⟩
theorem mq96 {cu : List (Nat × CU)} : MTQ 96 (3, coX1_melts, cu) := ⟨rfl, cqX1_melts.symm, by decide, oX1_melts, rfl⟩
theorem mq97 {cu : List (Nat × CU)} : MTQ 97 (4, coX1_note, cu) := ⟨rfl, cqX1_note.symm, by decide, oX1_note, rfl⟩
theorem mq98 {cu : List (Nat × CU)} : MTQ 98 (2, coX1_oneHour, cu) := ⟨rfl, cqX1_oneHour.symm, by decide, oX1_oneHour, rfl⟩
theorem mq99 {cu : List (Nat × CU)} : MTQ 99 (2, coX1_readDoor, cu) := ⟨rfl, cqX1_readDoor.symm, by decide, oX1_readDoor, rfl⟩
theorem mq100 {cu : List (Nat × CU)} : MTQ 100 (4, coX1_skyOfHour, cu) := ⟨rfl, cqX1_skyOfHour.symm, by decide, oX1_skyOfHour, rfl⟩
theorem mq101 {cu : List (Nat × CU)} : MTQ 101 (4, coX1_takeAway, cu) := ⟨rfl, cqX1_takeAway.symm, by decide, oX1_takeAway, rfl⟩
theorem mq102 {cu : List (Nat × CU)} : MTQ 102 (5, coX1_thumbsOfHour, cu) := ⟨rfl, cqX1_thumbsOfHour.symm, by decide, oX1_thumbsOfHour, rfl⟩
theorem mq103 {cu : List (Nat × CU)} : MTQ 103 (4, coX3_number, cu) := ⟨rfl, cqX3_number.symm, by decide, oX3_number, rfl⟩
theorem mq104 {cu : List (Nat × CU)} : MTQ 104 (2, coX3_takePages, cu) := ⟨rfl, cqX3_takePages.symm, by decide, oX3_takePages, rfl⟩
theorem mq105 {cu : List (Nat × CU)} : MTQ 105 (7, coX3_write, cu) := ⟨rfl, cqX3_write.symm, by decide, oX3_write, rfl⟩
theorem mq106 {cu : List (Nat × CU)} : MTQ 106 (5, coX4_farFromMiddle, cu) := ⟨rfl, cqX4_farFromMiddle.symm, by decide, oX4_farFromMiddle, rfl⟩
theorem mq107 {cu : List (Nat × CU)} : MTQ 107 (4, coX4_goTogether, cu) := ⟨rfl, cqX4_goTogether.symm, by decide, oX4_goTogether, rfl⟩
theorem mq108 {cu : List (Nat × CU)} : MTQ 108 (7, coX4_lastParish, cu) := ⟨rfl, cqX4_lastParish.symm, by decide, oX4_lastParish, rfl⟩
theorem mq109 {cu : List (Nat × CU)} : MTQ 109 (6, coX4_middleOf, cu) := ⟨rfl, cqX4_middleOf.symm, by decide, oX4_middleOf, rfl⟩
theorem mq110 {cu : List (Nat × CU)} : MTQ 110 (3, coX4_moreThanHalf, cu) := ⟨rfl, cqX4_moreThanHalf.symm, by decide, oX4_moreThanHalf, rfl⟩
theorem mq111 {cu : List (Nat × CU)} : MTQ 111 (9, coX4_mostStacked, cu) := ⟨rfl, cqX4_mostStacked.symm, by decide, oX4_mostStacked, rfl⟩
theorem mq112 {cu : List (Nat × CU)} : MTQ 112 (4, coX4_mostTold, cu) := ⟨rfl, cqX4_mostTold.symm, by decide, oX4_mostTold, rfl⟩
theorem mq113 {cu : List (Nat × CU)} : MTQ 113 (7, coX4_parishesFor, cu) := ⟨rfl, cqX4_parishesFor.symm, by decide, oX4_parishesFor, rfl⟩
theorem mq114 {cu : List (Nat × CU)} : MTQ 114 (11, coX4_seatsOf, cu) := ⟨rfl, cqX4_seatsOf.symm, by decide, oX4_seatsOf, rfl⟩
theorem mq115 {cu : List (Nat × CU)} : MTQ 115 (9, coX4_shown, cu) := ⟨rfl, cqX4_shown.symm, by decide, oX4_shown, rfl⟩
theorem mq116 {cu : List (Nat × CU)} : MTQ 116 (7, coX4_sums, cu) := ⟨rfl, cqX4_sums.symm, by decide, oX4_sums, rfl⟩
theorem mq117 {cu : List (Nat × CU)} : MTQ 117 (4, coX4_timesTold, cu) := ⟨rfl, cqX4_timesTold.symm, by decide, oX4_timesTold, rfl⟩
theorem mq118 {cu : List (Nat × CU)} : MTQ 118 (7, coX4_together, cu) := ⟨rfl, cqX4_together.symm, by decide, oX4_together, rfl⟩
theorem mq119 {cu : List (Nat × CU)} : MTQ 119 (3, coX5_bounded, cu) := ⟨rfl, cqX5_bounded.symm, by decide, oX5_bounded, rfl⟩
theorem mq120 {cu : List (Nat × CU)} : MTQ 120 (1, coX5_digit, cu) := ⟨rfl, cqX5_digit.symm, by decide, oX5_digit, rfl⟩
theorem mq121 {cu : List (Nat × CU)} : MTQ 121 (3, coX5_emit, cu) := ⟨rfl, cqX5_emit.symm, by decide, oX5_emit, rfl⟩
theorem mq122 {cu : List (Nat × CU)} : MTQ 122 (3, coX5_emitUnit, cu) := ⟨rfl, cqX5_emitUnit.symm, by decide, oX5_emitUnit, rfl⟩
theorem mq123 {cu : List (Nat × CU)} : MTQ 123 (1, coX5_lawLine, cu) := ⟨rfl, cqX5_lawLine.symm, by decide, oX5_lawLine, rfl⟩
theorem mq124 {cu : List (Nat × CU)} : MTQ 124 (1, coX5_letter, cu) := ⟨rfl, cqX5_letter.symm, by decide, oX5_letter, rfl⟩
theorem mq125 {cu : List (Nat × CU)} : MTQ 125 (2, coX5_mindWord, cu) := ⟨rfl, cqX5_mindWord.symm, by decide, oX5_mindWord, rfl⟩
theorem mq126 {cu : List (Nat × CU)} : MTQ 126 (3, coX5_opensLine, cu) := ⟨rfl, cqX5_opensLine.symm, by decide, oX5_opensLine, rfl⟩
theorem mq127 {cu : List (Nat × CU)} : MTQ 127 (3, coX5_plainLine, cu) := ⟨rfl, cqX5_plainLine.symm, by decide, oX5_plainLine, rfl⟩
theorem mq128 {cu : List (Nat × CU)} : MTQ 128 (3, coX5_put, cu) := ⟨rfl, cqX5_put.symm, by decide, oX5_put, rfl⟩
theorem mq129 {cu : List (Nat × CU)} : MTQ 129 (5, coX5_readChoice, cu) := ⟨rfl, cqX5_readChoice.symm, by decide, oX5_readChoice, rfl⟩
theorem mq130 {cu : List (Nat × CU)} : MTQ 130 (4, coX5_readSum, cu) := ⟨rfl, cqX5_readSum.symm, by decide, oX5_readSum, rfl⟩
theorem mq131 {cu : List (Nat × CU)} : MTQ 131 (5, coX5_readTape, cu) := ⟨rfl, cqX5_readTape.symm, by decide, oX5_readTape, rfl⟩
theorem mq132 {cu : List (Nat × CU)} : MTQ 132 (4, coX5_readTest, cu) := ⟨rfl, cqX5_readTest.symm, by decide, oX5_readTest, rfl⟩
theorem mq133 {cu : List (Nat × CU)} : MTQ 133 (2, coX5_sign, cu) := ⟨rfl, cqX5_sign.symm, by decide, oX5_sign, rfl⟩
theorem mq134 {cu : List (Nat × CU)} : MTQ 134 (1, coX5_skyLine, cu) := ⟨rfl, cqX5_skyLine.symm, by decide, oX5_skyLine, rfl⟩
theorem mq135 {cu : List (Nat × CU)} : MTQ 135 (1, coX5_step, cu) := ⟨rfl, cqX5_step.symm, by decide, oX5_step, rfl⟩
theorem mq136 {cu : List (Nat × CU)} : MTQ 136 (3, coX5_take, cu) := ⟨rfl, cqX5_take.symm, by decide, oX5_take, rfl⟩
theorem mq137 {cu : List (Nat × CU)} : MTQ 137 (8, coX5_wordOf, cu) := ⟨rfl, cqX5_wordOf.symm, by decide, oX5_wordOf, rfl⟩
theorem mq138 {cu : List (Nat × CU)} : MTQ 138 (2, coX5_wrong, cu) := ⟨rfl, cqX5_wrong.symm, by decide, oX5_wrong, rfl⟩
theorem mq139 {cu : List (Nat × CU)} : MTQ 139 (1, coX7_forget, cu) := ⟨rfl, cqX7_forget.symm, by decide, oX7_forget, rfl⟩
theorem mq140 {cu : List (Nat × CU)} : MTQ 140 (2, coX7_goBack, cu) := ⟨rfl, cqX7_goBack.symm, by decide, oX7_goBack, rfl⟩
theorem mq141 {cu : List (Nat × CU)} : MTQ 141 (2, coX7_keep, cu) := ⟨rfl, cqX7_keep.symm, by decide, oX7_keep, rfl⟩
theorem mq142 {cu : List (Nat × CU)} : MTQ 142 (2, coX9_add, cu) := ⟨rfl, cqX9_add.symm, by decide, oX9_add, rfl⟩
theorem mq143 {cu : List (Nat × CU)} : MTQ 143 (3, coX9_takeList, cu) := ⟨rfl, cqX9_takeList.symm, by decide, oX9_takeList, rfl⟩
theorem mq144 {cu : List (Nat × CU)} : MTQ 144 (2, coX10_linesOf, cu) := ⟨rfl, cqX10_linesOf.symm, by decide, oX10_linesOf, rfl⟩
theorem mq145 {cu : List (Nat × CU)} : MTQ 145 (3, coX10_takeAll, cu) := ⟨rfl, cqX10_takeAll.symm, by decide, oX10_takeAll, rfl⟩
theorem mq146 {cu : List (Nat × CU)} : MTQ 146 (6, coX10_takenFor, cu) := ⟨rfl, cqX10_takenFor.symm, by decide, oX10_takenFor, rfl⟩
theorem mq147 {cu : List (Nat × CU)} : MTQ 147 (5, coX10_tell, cu) := ⟨rfl, cqX10_tell.symm, by decide, oX10_tell, rfl⟩
theorem mq148 {cu : List (Nat × CU)} : MTQ 148 (7, coX10_twinsOf, cu) := ⟨rfl, cqX10_twinsOf.symm, by decide, oX10_twinsOf, rfl⟩
theorem mq149 {cu : List (Nat × CU)} : MTQ 149 (3, coX11_before, cu) := ⟨rfl, cqX11_before.symm, by decide, oX11_before, rfl⟩
theorem mq150 {cu : List (Nat × CU)} : MTQ 150 (3, coX11_bill, cu) := ⟨rfl, cqX11_bill.symm, by decide, oX11_bill, rfl⟩
theorem mq151 {cu : List (Nat × CU)} : MTQ 151 (2, coX11_bills, cu) := ⟨rfl, cqX11_bills.symm, by decide, oX11_bills, rfl⟩
theorem mq152 {cu : List (Nat × CU)} : MTQ 152 (3, coX11_book, cu) := ⟨rfl, cqX11_book.symm, by decide, oX11_book, rfl⟩
theorem mq153 {cu : List (Nat × CU)} : MTQ 153 (2, coX11_candle, cu) := ⟨rfl, cqX11_candle.symm, by decide, oX11_candle, rfl⟩
theorem mq154 {cu : List (Nat × CU)} : MTQ 154 (3, coX11_candles, cu) := ⟨rfl, cqX11_candles.symm, by decide, oX11_candles, rfl⟩
theorem mq155 {cu : List (Nat × CU)} : MTQ 155 (6, coX11_cell, cu) := ⟨rfl, cqX11_cell.symm, by decide, oX11_cell, rfl⟩
theorem mq156 {cu : List (Nat × CU)} : MTQ 156 (2, coX11_could, cu) := ⟨rfl, cqX11_could.symm, by decide, oX11_could, rfl⟩
theorem mq157 {cu : List (Nat × CU)} : MTQ 157 (4, coX11_door, cu) := ⟨rfl, cqX11_door.symm, by decide, oX11_door, rfl⟩
theorem mq158 {cu : List (Nat × CU)} : MTQ 158 (2, coX11_end, cu) := ⟨rfl, cqX11_end.symm, by decide, oX11_end, rfl⟩
theorem mq159 {cu : List (Nat × CU)} : MTQ 159 (2, coX11_fault, cu) := ⟨rfl, cqX11_fault.symm, by decide, oX11_fault, rfl⟩
theorem mq160 {cu : List (Nat × CU)} : MTQ 160 (6, coX11_feed, cu) := ⟨rfl, cqX11_feed.symm, by decide, oX11_feed, rfl⟩
theorem mq161 {cu : List (Nat × CU)} : MTQ 161 (4, coX11_goes, cu) := ⟨rfl, cqX11_goes.symm, by decide, oX11_goes, rfl⟩
theorem mq162 {cu : List (Nat × CU)} : MTQ 162 (3, coX11_hand, cu) := ⟨rfl, cqX11_hand.symm, by decide, oX11_hand, rfl⟩
theorem mq163 {cu : List (Nat × CU)} : MTQ 163 (4, coX11_hours, cu) := ⟨rfl, cqX11_hours.symm, by decide, oX11_hours, rfl⟩
theorem mq164 {cu : List (Nat × CU)} : MTQ 164 (2, coX11_house, cu) := ⟨rfl, cqX11_house.symm, by decide, oX11_house, rfl⟩
theorem mq165 {cu : List (Nat × CU)} : MTQ 165 (2, coX11_image, cu) := ⟨rfl, cqX11_image.symm, by decide, oX11_image, rfl⟩
theorem mq166 {cu : List (Nat × CU)} : MTQ 166 (3, coX11_lantern, cu) := ⟨rfl, cqX11_lantern.symm, by decide, oX11_lantern, rfl⟩
theorem mq167 {cu : List (Nat × CU)} : MTQ 167 (4, coX11_lift, cu) := ⟨rfl, cqX11_lift.symm, by decide, oX11_lift, rfl⟩
theorem mq168 {cu : List (Nat × CU)} : MTQ 168 (2, coX11_look, cu) := ⟨rfl, cqX11_look.symm, by decide, oX11_look, rfl⟩
theorem mq169 {cu : List (Nat × CU)} : MTQ 169 (2, coX11_middle, cu) := ⟨rfl, cqX11_middle.symm, by decide, oX11_middle, rfl⟩
theorem mq170 {cu : List (Nat × CU)} : MTQ 170 (2, coX11_name, cu) := ⟨rfl, cqX11_name.symm, by decide, oX11_name, rfl⟩
theorem mq171 {cu : List (Nat × CU)} : MTQ 171 (3, coX11_of, cu) := ⟨rfl, cqX11_of.symm, by decide, oX11_of, rfl⟩
theorem mq172 {cu : List (Nat × CU)} : MTQ 172 (4, coX11_parishes, cu) := ⟨rfl, cqX11_parishes.symm, by decide, oX11_parishes, rfl⟩
theorem mq173 {cu : List (Nat × CU)} : MTQ 173 (2, coX11_party, cu) := ⟨rfl, cqX11_party.symm, by decide, oX11_party, rfl⟩
theorem mq174 {cu : List (Nat × CU)} : MTQ 174 (3, coX11_press, cu) := ⟨rfl, cqX11_press.symm, by decide, oX11_press, rfl⟩
theorem mq175 {cu : List (Nat × CU)} : MTQ 175 (5, coX11_seats, cu) := ⟨rfl, cqX11_seats.symm, by decide, oX11_seats, rfl⟩
theorem mq176 {cu : List (Nat × CU)} : MTQ 176 (4, coX11_set, cu) := ⟨rfl, cqX11_set.symm, by decide, oX11_set, rfl⟩
theorem mq177 {cu : List (Nat × CU)} : MTQ 177 (1, coX11_stack, cu) := ⟨rfl, cqX11_stack.symm, by decide, oX11_stack, rfl⟩
theorem mq178 {cu : List (Nat × CU)} : MTQ 178 (2, coX11_stands, cu) := ⟨rfl, cqX11_stands.symm, by decide, oX11_stands, rfl⟩
theorem mq179 {cu : List (Nat × CU)} : MTQ 179 (3, coX11_state, cu) := ⟨rfl, cqX11_state.symm, by decide, oX11_state, rfl⟩
theorem mq180 {cu : List (Nat × CU)} : MTQ 180 (3, coX11_text, cu) := ⟨rfl, cqX11_text.symm, by decide, oX11_text, rfl⟩
theorem mq181 {cu : List (Nat × CU)} : MTQ 181 (2, coX11_traitCan, cu) := ⟨rfl, cqX11_traitCan.symm, by decide, oX11_traitCan, rfl⟩
theorem mq182 {cu : List (Nat × CU)} : MTQ 182 (1, coX11_undo, cu) := ⟨rfl, cqX11_undo.symm, by decide, oX11_undo, rfl⟩
theorem mq183 {cu : List (Nat × CU)} : MTQ 183 (2, coX11_unlikeBills, cu) := ⟨rfl, cqX11_unlikeBills.symm, by decide, oX11_unlikeBills, rfl⟩
theorem mq184 {cu : List (Nat × CU)} : MTQ 184 (7, coX11_voter, cu) := ⟨rfl, cqX11_voter.symm, by decide, oX11_voter, rfl⟩
theorem mq185 {cu : List (Nat × CU)} : MTQ 185 (3, coX11_whose, cu) := ⟨rfl, cqX11_whose.symm, by decide, oX11_whose, rfl⟩
theorem mq186 {cu : List (Nat × CU)} : MTQ 186 (2, coX11_wish, cu) := ⟨rfl, cqX11_wish.symm, by decide, oX11_wish, rfl⟩
theorem mq187 {cu : List (Nat × CU)} : MTQ 187 (3, coX12_apart, cu) := ⟨rfl, cqX12_apart.symm, by decide, oX12_apart, rfl⟩
theorem mq188 {cu : List (Nat × CU)} : MTQ 188 (4, coX12_before, cu) := ⟨rfl, cqX12_before.symm, by decide, oX12_before, rfl⟩
theorem mq189 {cu : List (Nat × CU)} : MTQ 189 (4, coX12_bill, cu) := ⟨rfl, cqX12_bill.symm, by decide, oX12_bill, rfl⟩
theorem mq190 {cu : List (Nat × CU)} : MTQ 190 (5, coX12_bills, cu) := ⟨rfl, cqX12_bills.symm, by decide, oX12_bills, rfl⟩
theorem mq191 {cu : List (Nat × CU)} : MTQ 191 (3, coX12_book, cu) := ⟨rfl, cqX12_book.symm, by decide, oX12_book, rfl⟩
theorem mq192 {cu : List (Nat × CU)} : MTQ 192 (2, coX12_canAsk, cu) := ⟨rfl, cqX12_canAsk.symm, by decide, oX12_canAsk, rfl⟩
theorem mq193 {cu : List (Nat × CU)} : MTQ 193 (2, coX12_canPress, cu) := ⟨rfl, cqX12_canPress.symm, by decide, oX12_canPress, rfl⟩
theorem mq194 {cu : List (Nat × CU)} : MTQ 194 (4, coX12_canSet, cu) := ⟨rfl, cqX12_canSet.symm, by decide, oX12_canSet, rfl⟩
theorem mq195 {cu : List (Nat × CU)} : MTQ 195 (2, coX12_candle, cu) := ⟨rfl, cqX12_candle.symm, by decide, oX12_candle, rfl⟩
theorem mq196 {cu : List (Nat × CU)} : MTQ 196 (6, coX12_candles, cu) := ⟨rfl, cqX12_candles.symm, by decide, oX12_candles, rfl⟩
theorem mq197 {cu : List (Nat × CU)} : MTQ 197 (5, coX12_cell, cu) := ⟨rfl, cqX12_cell.symm, by decide, oX12_cell, rfl⟩
theorem mq198 {cu : List (Nat × CU)} : MTQ 198 (2, coX12_comesOf, cu) := ⟨rfl, cqX12_comesOf.symm, by decide, oX12_comesOf, rfl⟩
theorem mq199 {cu : List (Nat × CU)} : MTQ 199 (5, coX12_could, cu) := ⟨rfl, cqX12_could.symm, by decide, oX12_could, rfl⟩
theorem mq200 {cu : List (Nat × CU)} : MTQ 200 (7, coX12_dearest, cu) := ⟨rfl, cqX12_dearest.symm, by decide, oX12_dearest, rfl⟩
theorem mq201 {cu : List (Nat × CU)} : MTQ 201 (3, coX12_doGoTogether, cu) := ⟨rfl, cqX12_doGoTogether.symm, by decide, oX12_doGoTogether, rfl⟩
theorem mq202 {cu : List (Nat × CU)} : MTQ 202 (2, coX12_does, cu) := ⟨rfl, cqX12_does.symm, by decide, oX12_does, rfl⟩
theorem mq203 {cu : List (Nat × CU)} : MTQ 203 (3, coX12_door, cu) := ⟨rfl, cqX12_door.symm, by decide, oX12_door, rfl⟩
theorem mq204 {cu : List (Nat × CU)} : MTQ 204 (2, coX12_draw, cu) := ⟨rfl, cqX12_draw.symm, by decide, oX12_draw, rfl⟩
theorem mq205 {cu : List (Nat × CU)} : MTQ 205 (3, coX12_emits, cu) := ⟨rfl, cqX12_emits.symm, by decide, oX12_emits, rfl⟩
theorem mq206 {cu : List (Nat × CU)} : MTQ 206 (2, coX12_end, cu) := ⟨rfl, cqX12_end.symm, by decide, oX12_end, rfl⟩
theorem mq207 {cu : List (Nat × CU)} : MTQ 207 (2, coX12_endsThought, cu) := ⟨rfl, cqX12_endsThought.symm, by decide, oX12_endsThought, rfl⟩
theorem mq208 {cu : List (Nat × CU)} : MTQ 208 (2, coX12_errs, cu) := ⟨rfl, cqX12_errs.symm, by decide, oX12_errs, rfl⟩
theorem mq209 {cu : List (Nat × CU)} : MTQ 209 (3, coX12_evening, cu) := ⟨rfl, cqX12_evening.symm, by decide, oX12_evening, rfl⟩
theorem mq210 {cu : List (Nat × CU)} : MTQ 210 (2, coX12_fault, cu) := ⟨rfl, cqX12_fault.symm, by decide, oX12_fault, rfl⟩
theorem mq211 {cu : List (Nat × CU)} : MTQ 211 (6, coX12_feed, cu) := ⟨rfl, cqX12_feed.symm, by decide, oX12_feed, rfl⟩
theorem mq212 {cu : List (Nat × CU)} : MTQ 212 (8, coX12_findsParishes, cu) := ⟨rfl, cqX12_findsParishes.symm, by decide, oX12_findsParishes, rfl⟩
theorem mq213 {cu : List (Nat × CU)} : MTQ 213 (5, coX12_goes, cu) := ⟨rfl, cqX12_goes.symm, by decide, oX12_goes, rfl⟩
theorem mq214 {cu : List (Nat × CU)} : MTQ 214 (3, coX12_goesBy, cu) := ⟨rfl, cqX12_goesBy.symm, by decide, oX12_goesBy, rfl⟩
theorem mq215 {cu : List (Nat × CU)} : MTQ 215 (3, coX12_hand, cu) := ⟨rfl, cqX12_hand.symm, by decide, oX12_hand, rfl⟩
theorem mq216 {cu : List (Nat × CU)} : MTQ 216 (2, coX12_happens, cu) := ⟨rfl, cqX12_happens.symm, by decide, oX12_happens, rfl⟩
theorem mq217 {cu : List (Nat × CU)} : MTQ 217 (4, coX12_hours, cu) := ⟨rfl, cqX12_hours.symm, by decide, oX12_hours, rfl⟩
theorem mq218 {cu : List (Nat × CU)} : MTQ 218 (2, coX12_house, cu) := ⟨rfl, cqX12_house.symm, by decide, oX12_house, rfl⟩
theorem mq219 {cu : List (Nat × CU)} : MTQ 219 (3, coX12_image, cu) := ⟨rfl, cqX12_image.symm, by decide, oX12_image, rfl⟩
theorem mq220 {cu : List (Nat × CU)} : MTQ 220 (2, coX12_isBare, cu) := ⟨rfl, cqX12_isBare.symm, by decide, oX12_isBare, rfl⟩
theorem mq221 {cu : List (Nat × CU)} : MTQ 221 (2, coX12_isDigit, cu) := ⟨rfl, cqX12_isDigit.symm, by decide, oX12_isDigit, rfl⟩
theorem mq222 {cu : List (Nat × CU)} : MTQ 222 (2, coX12_isLetter, cu) := ⟨rfl, cqX12_isLetter.symm, by decide, oX12_isLetter, rfl⟩
theorem mq223 {cu : List (Nat × CU)} : MTQ 223 (2, coX12_isLifted, cu) := ⟨rfl, cqX12_isLifted.symm, by decide, oX12_isLifted, rfl⟩
theorem mq224 {cu : List (Nat × CU)} : MTQ 224 (1, coX12_isLineWord, cu) := ⟨rfl, cqX12_isLineWord.symm, by decide, oX12_isLineWord, rfl⟩
theorem mq225 {cu : List (Nat × CU)} : MTQ 225 (2, coX12_isMarkSign, cu) := ⟨rfl, cqX12_isMarkSign.symm, by decide, oX12_isMarkSign, rfl⟩
theorem mq226 {cu : List (Nat × CU)} : MTQ 226 (2, coX12_isSign, cu) := ⟨rfl, cqX12_isSign.symm, by decide, oX12_isSign, rfl⟩
theorem mq227 {cu : List (Nat × CU)} : MTQ 227 (2, coX12_isVoter, cu) := ⟨rfl, cqX12_isVoter.symm, by decide, oX12_isVoter, rfl⟩
theorem mq228 {cu : List (Nat × CU)} : MTQ 228 (2, coX12_isWord, cu) := ⟨rfl, cqX12_isWord.symm, by decide, oX12_isWord, rfl⟩
theorem mq229 {cu : List (Nat × CU)} : MTQ 229 (2, coX12_keeps, cu) := ⟨rfl, cqX12_keeps.symm, by decide, oX12_keeps, rfl⟩
theorem mq230 {cu : List (Nat × CU)} : MTQ 230 (2, coX12_keepsAhead, cu) := ⟨rfl, cqX12_keepsAhead.symm, by decide, oX12_keepsAhead, rfl⟩
theorem mq231 {cu : List (Nat × CU)} : MTQ 231 (2, coX12_keepsLaw, cu) := ⟨rfl, cqX12_keepsLaw.symm, by decide, oX12_keepsLaw, rfl⟩
theorem mq232 {cu : List (Nat × CU)} : MTQ 232 (1, coX12_keepsMany, cu) := ⟨rfl, cqX12_keepsMany.symm, by decide, oX12_keepsMany, rfl⟩
theorem mq233 {cu : List (Nat × CU)} : MTQ 233 (2, coX12_keepsTold, cu) := ⟨rfl, cqX12_keepsTold.symm, by decide, oX12_keepsTold, rfl⟩
theorem mq234 {cu : List (Nat × CU)} : MTQ 234 (7, coX12_lantern, cu) := ⟨rfl, cqX12_lantern.symm, by decide, oX12_lantern, rfl⟩
theorem mq235 {cu : List (Nat × CU)} : MTQ 235 (3, coX12_lift, cu) := ⟨rfl, cqX12_lift.symm, by decide, oX12_lift, rfl⟩
theorem mq236 {cu : List (Nat × CU)} : MTQ 236 (2, coX12_look, cu) := ⟨rfl, cqX12_look.symm, by decide, oX12_look, rfl⟩
theorem mq237 {cu : List (Nat × CU)} : MTQ 237 (3, coX12_markMany, cu) := ⟨rfl, cqX12_markMany.symm, by decide, oX12_markMany, rfl⟩
theorem mq238 {cu : List (Nat × CU)} : MTQ 238 (2, coX12_meltsOf, cu) := ⟨rfl, cqX12_meltsOf.symm, by decide, oX12_meltsOf, rfl⟩
theorem mq239 {cu : List (Nat × CU)} : MTQ 239 (5, coX12_middle, cu) := ⟨rfl, cqX12_middle.symm, by decide, oX12_middle, rfl⟩
theorem mq240 {cu : List (Nat × CU)} : MTQ 240 (4, coX12_middleOf, cu) := ⟨rfl, cqX12_middleOf.symm, by decide, oX12_middleOf, rfl⟩
theorem mq241 {cu : List (Nat × CU)} : MTQ 241 (2, coX12_mightMelt, cu) := ⟨rfl, cqX12_mightMelt.symm, by decide, oX12_mightMelt, rfl⟩
theorem mq242 {cu : List (Nat × CU)} : MTQ 242 (2, coX12_name, cu) := ⟨rfl, cqX12_name.symm, by decide, oX12_name, rfl⟩
theorem mq243 {cu : List (Nat × CU)} : MTQ 243 (5, coX12_notes, cu) := ⟨rfl, cqX12_notes.symm, by decide, oX12_notes, rfl⟩
theorem mq244 {cu : List (Nat × CU)} : MTQ 244 (3, coX12_of, cu) := ⟨rfl, cqX12_of.symm, by decide, oX12_of, rfl⟩
theorem mq245 {cu : List (Nat × CU)} : MTQ 245 (4, coX12_onesOf, cu) := ⟨rfl, cqX12_onesOf.symm, by decide, oX12_onesOf, rfl⟩
theorem mq246 {cu : List (Nat × CU)} : MTQ 246 (5, coX12_parishes, cu) := ⟨rfl, cqX12_parishes.symm, by decide, oX12_parishes, rfl⟩
theorem mq247 {cu : List (Nat × CU)} : MTQ 247 (2, coX12_party, cu) := ⟨rfl, cqX12_party.symm, by decide, oX12_party, rfl⟩
theorem mq248 {cu : List (Nat × CU)} : MTQ 248 (3, coX12_press, cu) := ⟨rfl, cqX12_press.symm, by decide, oX12_press, rfl⟩
theorem mq249 {cu : List (Nat × CU)} : MTQ 249 (5, coX12_presses, cu) := ⟨rfl, cqX12_presses.symm, by decide, oX12_presses, rfl⟩
theorem mq250 {cu : List (Nat × CU)} : MTQ 250 (2, coX12_raw, cu) := ⟨rfl, cqX12_raw.symm, by decide, oX12_raw, rfl⟩
theorem mq251 {cu : List (Nat × CU)} : MTQ 251 (4, coX12_readAny, cu) := ⟨rfl, cqX12_readAny.symm, by decide, oX12_readAny, rfl⟩
theorem mq252 {cu : List (Nat × CU)} : MTQ 252 (2, coX12_readCompared, cu) := ⟨rfl, cqX12_readCompared.symm, by decide, oX12_readCompared, rfl⟩
theorem mq253 {cu : List (Nat × CU)} : MTQ 253 (4, coX12_readDeed, cu) := ⟨rfl, cqX12_readDeed.symm, by decide, oX12_readDeed, rfl⟩
theorem mq254 {cu : List (Nat × CU)} : MTQ 254 (2, coX12_readHeat, cu) := ⟨rfl, cqX12_readHeat.symm, by decide, oX12_readHeat, rfl⟩
theorem mq255 {cu : List (Nat × CU)} : MTQ 255 (3, coX12_readLaw, cu) := ⟨rfl, cqX12_readLaw.symm, by decide, oX12_readLaw, rfl⟩
theorem mq256 {cu : List (Nat × CU)} : MTQ 256 (2, coX12_readMark, cu) := ⟨rfl, cqX12_readMark.symm, by decide, oX12_readMark, rfl⟩
theorem mq257 {cu : List (Nat × CU)} : MTQ 257 (2, coX12_readMind, cu) := ⟨rfl, cqX12_readMind.symm, by decide, oX12_readMind, rfl⟩
theorem mq258 {cu : List (Nat × CU)} : MTQ 258 (4, coX12_readNumber, cu) := ⟨rfl, cqX12_readNumber.symm, by decide, oX12_readNumber, rfl⟩
theorem mq259 {cu : List (Nat × CU)} : MTQ 259 (2, coX12_readProduct, cu) := ⟨rfl, cqX12_readProduct.symm, by decide, oX12_readProduct, rfl⟩
theorem mq260 {cu : List (Nat × CU)} : MTQ 260 (2, coX12_readPutty, cu) := ⟨rfl, cqX12_readPutty.symm, by decide, oX12_readPutty, rfl⟩
theorem mq261 {cu : List (Nat × CU)} : MTQ 261 (2, coX12_readSky, cu) := ⟨rfl, cqX12_readSky.symm, by decide, oX12_readSky, rfl⟩
theorem mq262 {cu : List (Nat × CU)} : MTQ 262 (2, coX12_readSum, cu) := ⟨rfl, cqX12_readSum.symm, by decide, oX12_readSum, rfl⟩
theorem mq263 {cu : List (Nat × CU)} : MTQ 263 (4, coX12_readTold, cu) := ⟨rfl, cqX12_readTold.symm, by decide, oX12_readTold, rfl⟩
theorem mq264 {cu : List (Nat × CU)} : MTQ 264 (3, coX12_readTwin, cu) := ⟨rfl, cqX12_readTwin.symm, by decide, oX12_readTwin, rfl⟩
theorem mq265 {cu : List (Nat × CU)} : MTQ 265 (2, coX12_readTwins, cu) := ⟨rfl, cqX12_readTwins.symm, by decide, oX12_readTwins, rfl⟩
theorem mq266 {cu : List (Nat × CU)} : MTQ 266 (2, coX12_readUnit, cu) := ⟨rfl, cqX12_readUnit.symm, by decide, oX12_readUnit, rfl⟩
theorem mq267 {cu : List (Nat × CU)} : MTQ 267 (2, coX12_readWay, cu) := ⟨rfl, cqX12_readWay.symm, by decide, oX12_readWay, rfl⟩
theorem mq268 {cu : List (Nat × CU)} : MTQ 268 (2, coX12_readWays, cu) := ⟨rfl, cqX12_readWays.symm, by decide, oX12_readWays, rfl⟩
theorem mq269 {cu : List (Nat × CU)} : MTQ 269 (2, coX12_reads, cu) := ⟨rfl, cqX12_reads.symm, by decide, oX12_reads, rfl⟩
theorem mq270 {cu : List (Nat × CU)} : MTQ 270 (2, coX12_readsText, cu) := ⟨rfl, cqX12_readsText.symm, by decide, oX12_readsText, rfl⟩
theorem mq271 {cu : List (Nat × CU)} : MTQ 271 (7, coX12_seats, cu) := ⟨rfl, cqX12_seats.symm, by decide, oX12_seats, rfl⟩
theorem mq272 {cu : List (Nat × CU)} : MTQ 272 (4, coX12_set, cu) := ⟨rfl, cqX12_set.symm, by decide, oX12_set, rfl⟩
theorem mq273 {cu : List (Nat × CU)} : MTQ 273 (2, coX12_settles, cu) := ⟨rfl, cqX12_settles.symm, by decide, oX12_settles, rfl⟩
theorem mq274 {cu : List (Nat × CU)} : MTQ 274 (3, coX12_shareBy, cu) := ⟨rfl, cqX12_shareBy.symm, by decide, oX12_shareBy, rfl⟩
theorem mq275 {cu : List (Nat × CU)} : MTQ 275 (5, coX12_stack, cu) := ⟨rfl, cqX12_stack.symm, by decide, oX12_stack, rfl⟩
theorem mq276 {cu : List (Nat × CU)} : MTQ 276 (2, coX12_stands, cu) := ⟨rfl, cqX12_stands.symm, by decide, oX12_stands, rfl⟩
theorem mq277 {cu : List (Nat × CU)} : MTQ 277 (3, coX12_state, cu) := ⟨rfl, cqX12_state.symm, by decide, oX12_state, rfl⟩
theorem mq278 {cu : List (Nat × CU)} : MTQ 278 (3, coX12_takesLaw, cu) := ⟨rfl, cqX12_takesLaw.symm, by decide, oX12_takesLaw, rfl⟩
theorem mq279 {cu : List (Nat × CU)} : MTQ 279 (4, coX12_takesOther, cu) := ⟨rfl, cqX12_takesOther.symm, by decide, oX12_takesOther, rfl⟩
theorem mq280 {cu : List (Nat × CU)} : MTQ 280 (3, coX12_text, cu) := ⟨rfl, cqX12_text.symm, by decide, oX12_text, rfl⟩
theorem mq281 {cu : List (Nat × CU)} : MTQ 281 (2, coX12_thinks, cu) := ⟨rfl, cqX12_thinks.symm, by decide, oX12_thinks, rfl⟩
theorem mq282 {cu : List (Nat × CU)} : MTQ 282 (3, coX12_types, cu) := ⟨rfl, cqX12_types.symm, by decide, oX12_types, rfl⟩
theorem mq283 {cu : List (Nat × CU)} : MTQ 283 (2, coX12_undo, cu) := ⟨rfl, cqX12_undo.symm, by decide, oX12_undo, rfl⟩
theorem mq284 {cu : List (Nat × CU)} : MTQ 284 (5, coX12_voter, cu) := ⟨rfl, cqX12_voter.symm, by decide, oX12_voter, rfl⟩
theorem mq285 {cu : List (Nat × CU)} : MTQ 285 (2, coX12_waits, cu) := ⟨rfl, cqX12_waits.symm, by decide, oX12_waits, rfl⟩
theorem mq286 {cu : List (Nat × CU)} : MTQ 286 (7, coX12_whose, cu) := ⟨rfl, cqX12_whose.symm, by decide, oX12_whose, rfl⟩
theorem mq287 {cu : List (Nat × CU)} : MTQ 287 (2, coX12_wish, cu) := ⟨rfl, cqX12_wish.symm, by decide, oX12_wish, rfl⟩
theorem mq288 {cu : List (Nat × CU)} : MTQ 288 (6, coX12_wordAt, cu) := ⟨rfl, cqX12_wordAt.symm, by decide, oX12_wordAt, rfl⟩
set_option maxRecDepth 100000 in
theorem MT_ok : MTOK MT := by
  have h : MTL 0 MT := mtc mq0 (mtc mq1 (mtc mq2 (mtc mq3 (mtc mq4 (mtc mq5 (mtc mq6 (mtc mq7 (mtc mq8 (mtc mq9 (mtc mq10 (mtc mq11 (mtc mq12 (mtc mq13 (mtc mq14 (mtc mq15 (mtc mq16 (mtc mq17 (mtc mq18 (mtc mq19 (mtc mq20 (mtc mq21 (mtc mq22 (mtc mq23 (mtc mq24 (mtc mq25 (mtc mq26 (mtc mq27 (mtc mq28 (mtc mq29 (mtc mq30 (mtc mq31 (mtc mq32 (mtc mq33 (mtc mq34 (mtc mq35 (mtc mq36 (mtc mq37 (mtc mq38 (mtc mq39 (mtc mq40 (mtc mq41 (mtc mq42 (mtc mq43 (mtc mq44 (mtc mq45 (mtc mq46 (mtc mq47 (mtc mq48 (mtc mq49 (mtc mq50 (mtc mq51 (mtc mq52 (mtc mq53 (mtc mq54 (mtc mq55 (mtc mq56 (mtc mq57 (mtc mq58 (mtc mq59 (mtc mq60 (mtc mq61 (mtc mq62 (mtc mq63 (mtc mq64 (mtc mq65 (mtc mq66 (mtc mq67 (mtc mq68 (mtc mq69 (mtc mq70 (mtc mq71 (mtc mq72 (mtc mq73 (mtc mq74 (mtc mq75 (mtc mq76 (mtc mq77 (mtc mq78 (mtc mq79 (mtc mq80 (mtc mq81 (mtc mq82 (mtc mq83 (mtc mq84 (mtc mq85 (mtc mq86 (mtc mq87 (mtc mq88 (mtc mq89 (mtc mq90 (mtc mq91 (mtc mq92 (mtc mq93 (mtc mq94 (mtc mq95 (mtc mq96 (mtc mq97 (mtc mq98 (mtc mq99 (mtc mq100 (mtc mq101 (mtc mq102 (mtc mq103 (mtc mq104 (mtc mq105 (mtc mq106 (mtc mq107 (mtc mq108 (mtc mq109 (mtc mq110 (mtc mq111 (mtc mq112 (mtc mq113 (mtc mq114 (mtc mq115 (mtc mq116 (mtc mq117 (mtc mq118 (mtc mq119 (mtc mq120 (mtc mq121 (mtc mq122 (mtc mq123 (mtc mq124 (mtc mq125 (mtc mq126 (mtc mq127 (mtc mq128 (mtc mq129 (mtc mq130 (mtc mq131 (mtc mq132 (mtc mq133 (mtc mq134 (mtc mq135 (mtc mq136 (mtc mq137 (mtc mq138 (mtc mq139 (mtc mq140 (mtc mq141 (mtc mq142 (mtc mq143 (mtc mq144 (mtc mq145 (mtc mq146 (mtc mq147 (mtc mq148 (mtc mq149 (mtc mq150 (mtc mq151 (mtc mq152 (mtc mq153 (mtc mq154 (mtc mq155 (mtc mq156 (mtc mq157 (mtc mq158 (mtc mq159 (mtc mq160 (mtc mq161 (mtc mq162 (mtc mq163 (mtc mq164 (mtc mq165 (mtc mq166 (mtc mq167 (mtc mq168 (mtc mq169 (mtc mq170 (mtc mq171 (mtc mq172 (mtc mq173 (mtc mq174 (mtc mq175 (mtc mq176 (mtc mq177 (mtc mq178 (mtc mq179 (mtc mq180 (mtc mq181 (mtc mq182 (mtc mq183 (mtc mq184 (mtc mq185 (mtc mq186 (mtc mq187 (mtc mq188 (mtc mq189 (mtc mq190 (mtc mq191 (mtc mq192 (mtc mq193 (mtc mq194 (mtc mq195 (mtc mq196 (mtc mq197 (mtc mq198 (mtc mq199 (mtc mq200 (mtc mq201 (mtc mq202 (mtc mq203 (mtc mq204 (mtc mq205 (mtc mq206 (mtc mq207 (mtc mq208 (mtc mq209 (mtc mq210 (mtc mq211 (mtc mq212 (mtc mq213 (mtc mq214 (mtc mq215 (mtc mq216 (mtc mq217 (mtc mq218 (mtc mq219 (mtc mq220 (mtc mq221 (mtc mq222 (mtc mq223 (mtc mq224 (mtc mq225 (mtc mq226 (mtc mq227 (mtc mq228 (mtc mq229 (mtc mq230 (mtc mq231 (mtc mq232 (mtc mq233 (mtc mq234 (mtc mq235 (mtc mq236 (mtc mq237 (mtc mq238 (mtc mq239 (mtc mq240 (mtc mq241 (mtc mq242 (mtc mq243 (mtc mq244 (mtc mq245 (mtc mq246 (mtc mq247 (mtc mq248 (mtc mq249 (mtc mq250 (mtc mq251 (mtc mq252 (mtc mq253 (mtc mq254 (mtc mq255 (mtc mq256 (mtc mq257 (mtc mq258 (mtc mq259 (mtc mq260 (mtc mq261 (mtc mq262 (mtc mq263 (mtc mq264 (mtc mq265 (mtc mq266 (mtc mq267 (mtc mq268 (mtc mq269 (mtc mq270 (mtc mq271 (mtc mq272 (mtc mq273 (mtc mq274 (mtc mq275 (mtc mq276 (mtc mq277 (mtc mq278 (mtc mq279 (mtc mq280 (mtc mq281 (mtc mq282 (mtc mq283 (mtc mq284 (mtc mq285 (mtc mq286 (mtc mq287 (mtc mq288 (mtn)))))))))))))))))))))))))))))))))))))))))))))))))))))))))))))))))))))))))))))))))))))))))))))))))))))))))))))))))))))))))))))))))))))))))))))))))))))))))))))))))))))))))))))))))))))))))))))))))))))))))))))))))))))))))))))))))))))))))))))))))))))))))))))))))))))))))))))))))))))))))))))))))
  intro k nL co cu hk
  have := h k _ hk
  rw [Nat.zero_add] at this
  exact this
