set_option maxRecDepth 100000 in
theorem oX7_holdNoon : dm_okM RX7 rX7_holdNoon.2.1 false qX7_holdNoon = true := by decide +kernel
set_option maxRecDepth 100000 in
theorem pX7_holdNoon : dm_RP 77 rX7_holdNoon := dm_RPof 1025 115 1023 1024 (by decide +kernel)
set_option maxRecDepth 100000 in
theorem oX7_perform : dm_okM RX7 rX7_perform.2.1 false qX7_perform = true := by decide +kernel
set_option maxRecDepth 100000 in
theorem pX7_perform : dm_RP 78 rX7_perform := dm_RPof 1068 115 1066 1067 (by decide +kernel)
set_option maxRecDepth 100000 in
theorem oX7_haunted : dm_okM RX7 rX7_haunted.2.1 false qX7_haunted = true := by decide +kernel
set_option maxRecDepth 100000 in
theorem pX7_haunted : dm_RP 79 rX7_haunted := dm_RPof 1172 115 1170 1171 (by decide +kernel)
set_option maxRecDepth 100000 in
theorem oX7_savedBy : dm_okM RX7 rX7_savedBy.2.1 false qX7_savedBy = true := by decide +kernel
set_option maxRecDepth 100000 in
theorem pX7_savedBy : dm_RP 80 rX7_savedBy := dm_RPof 1342 115 1340 1341 (by decide +kernel)
set_option maxRecDepth 100000 in
theorem oX7_drawDeeds : dm_okM RX7 rX7_drawDeeds.2.1 false qX7_drawDeeds = true := by decide +kernel
set_option maxRecDepth 100000 in
theorem pX7_drawDeeds : dm_RP 81 rX7_drawDeeds := dm_RPof 1238 115 1236 1237 (by decide +kernel)
set_option maxRecDepth 100000 in
theorem oX8_init : dm_okM RX8 rX8_init.2.1 true qX8_init = true := by decide +kernel
set_option maxRecDepth 100000 in
theorem pX8_init : dm_RP 82 rX8_init := dm_RPof 194 111 193 0 (by decide +kernel)
set_option maxRecDepth 100000 in
theorem oX8_has : dm_okM RX8 rX8_has.2.1 false qX8_has = true := by decide +kernel
set_option maxRecDepth 100000 in
theorem pX8_has : dm_RP 83 rX8_has := dm_RPof 711 111 709 710 (by decide +kernel)
set_option maxRecDepth 100000 in
theorem oX8_isFull : dm_okM RX8 rX8_isFull.2.1 false qX8_isFull = true := by decide +kernel
set_option maxRecDepth 100000 in
theorem pX8_isFull : dm_RP 84 rX8_isFull := dm_RPof 662 111 660 661 (by decide +kernel)
set_option maxRecDepth 100000 in
theorem oX8_find : dm_okM RX8 rX8_find.2.1 false qX8_find = true := by decide +kernel
set_option maxRecDepth 100000 in
theorem pX8_find : dm_RP 85 rX8_find := dm_RPof 675 111 673 674 (by decide +kernel)
set_option maxRecDepth 100000 in
theorem oX8_fact : dm_okM RX8 rX8_fact.2.1 false qX8_fact = true := by decide +kernel
set_option maxRecDepth 100000 in
theorem pX8_fact : dm_RP 86 rX8_fact := dm_RPof 750 111 748 749 (by decide +kernel)
set_option maxRecDepth 100000 in
theorem oX8_put : dm_okM RX8 rX8_put.2.1 false qX8_put = true := by decide +kernel
set_option maxRecDepth 100000 in
theorem pX8_put : dm_RP 87 rX8_put := dm_RPof 707 111 705 706 (by decide +kernel)
set_option maxRecDepth 100000 in
theorem oX8_add : dm_okM RX8 rX8_add.2.1 false qX8_add = true := by decide +kernel
set_option maxRecDepth 100000 in
theorem pX8_add : dm_RP 88 rX8_add := dm_RPof 702 111 700 701 (by decide +kernel)
set_option maxRecDepth 100000 in
theorem oX9_init : dm_okM RX9 rX9_init.2.1 true qX9_init = true := by decide +kernel
set_option maxRecDepth 100000 in
theorem pX9_init : dm_RP 89 rX9_init := dm_RPof 147 109 146 0 (by decide +kernel)
set_option maxRecDepth 100000 in
theorem oX9_addBytes : dm_okM RX9 rX9_addBytes.2.1 false qX9_addBytes = true := by decide +kernel
set_option maxRecDepth 100000 in
theorem pX9_addBytes : dm_RP 90 rX9_addBytes := dm_RPof 509 109 507 508 (by decide +kernel)
set_option maxRecDepth 100000 in
theorem oX9_rewind : dm_okM RX9 rX9_rewind.2.1 false qX9_rewind = true := by decide +kernel
set_option maxRecDepth 100000 in
theorem pX9_rewind : dm_RP 91 rX9_rewind := dm_RPof 528 109 526 527 (by decide +kernel)
set_option maxRecDepth 100000 in
theorem oX9_takeAway : dm_okM RX9 rX9_takeAway.2.1 false qX9_takeAway = true := by decide +kernel
set_option maxRecDepth 100000 in
theorem pX9_takeAway : dm_RP 92 rX9_takeAway := dm_RPof 853 109 851 852 (by decide +kernel)
set_option maxRecDepth 100000 in
theorem oX9_advance : dm_okM RX9 rX9_advance.2.1 false qX9_advance = true := by decide +kernel
set_option maxRecDepth 100000 in
theorem pX9_advance : dm_RP 93 rX9_advance := dm_RPof 532 109 530 531 (by decide +kernel)
set_option maxRecDepth 100000 in
theorem oX9_scanWord : dm_okM RX9 rX9_scanWord.2.1 false qX9_scanWord = true := by decide +kernel
set_option maxRecDepth 100000 in
theorem pX9_scanWord : dm_RP 94 rX9_scanWord := dm_RPof 539 109 538 1 (by decide +kernel)
set_option maxRecDepth 100000 in
theorem oX9_scanNumber : dm_okM RX9 rX9_scanNumber.2.1 false qX9_scanNumber = true := by decide +kernel
set_option maxRecDepth 100000 in
theorem pX9_scanNumber : dm_RP 95 rX9_scanNumber := dm_RPof 555 109 554 2 (by decide +kernel)
set_option maxRecDepth 100000 in
theorem oX9_isLetter : dm_okM RX9 rX9_isLetter.2.1 false qX9_isLetter = true := by decide +kernel
set_option maxRecDepth 100000 in
theorem pX9_isLetter : dm_RP 96 rX9_isLetter := dm_RPof 535 109 534 0 (by decide +kernel)
set_option maxRecDepth 100000 in
theorem oX9_isDigit : dm_okM RX9 rX9_isDigit.2.1 false qX9_isDigit = true := by decide +kernel
set_option maxRecDepth 100000 in
theorem pX9_isDigit : dm_RP 97 rX9_isDigit := dm_RPof 551 109 550 0 (by decide +kernel)
set_option maxRecDepth 100000 in
theorem oX9_fail : dm_okM RX9 rX9_fail.2.1 false qX9_fail = true := by decide +kernel
set_option maxRecDepth 100000 in
theorem pX9_fail : dm_RP 98 rX9_fail := dm_RPof 666 109 664 665 (by decide +kernel)
set_option maxRecDepth 100000 in
theorem oX9_isOver : dm_okM RX9 rX9_isOver.2.1 false qX9_isOver = true := by decide +kernel
set_option maxRecDepth 100000 in
theorem pX9_isOver : dm_RP 99 rX9_isOver := dm_RPof 644 109 642 643 (by decide +kernel)
set_option maxRecDepth 100000 in
theorem oX9_isWord : dm_okM RX9 rX9_isWord.2.1 false qX9_isWord = true := by decide +kernel
set_option maxRecDepth 100000 in
theorem pX9_isWord : dm_RP 100 rX9_isWord := dm_RPof 650 109 648 649 (by decide +kernel)
set_option maxRecDepth 100000 in
theorem oX9_isSign : dm_okM RX9 rX9_isSign.2.1 false qX9_isSign = true := by decide +kernel
set_option maxRecDepth 100000 in
theorem pX9_isSign : dm_RP 101 rX9_isSign := dm_RPof 830 109 828 829 (by decide +kernel)
set_option maxRecDepth 100000 in
theorem oX9_isNumber : dm_okM RX9 rX9_isNumber.2.1 false qX9_isNumber = true := by decide +kernel
set_option maxRecDepth 100000 in
theorem pX9_isNumber : dm_RP 102 rX9_isNumber := dm_RPof 694 109 692 693 (by decide +kernel)
set_option maxRecDepth 100000 in
theorem oX9_isName : dm_okM RX9 rX9_isName.2.1 false qX9_isName = true := by decide +kernel
set_option maxRecDepth 100000 in
theorem pX9_isName : dm_RP 103 rX9_isName := dm_RPof 671 109 669 670 (by decide +kernel)
set_option maxRecDepth 100000 in
theorem oX9_needWord : dm_okM RX9 rX9_needWord.2.1 false qX9_needWord = true := by decide +kernel
set_option maxRecDepth 100000 in
theorem pX9_needWord : dm_RP 104 rX9_needWord := dm_RPof 684 109 682 683 (by decide +kernel)
set_option maxRecDepth 100000 in
theorem oX9_needSign : dm_okM RX9 rX9_needSign.2.1 false qX9_needSign = true := by decide +kernel
set_option maxRecDepth 100000 in
theorem pX9_needSign : dm_RP 105 rX9_needSign := dm_RPof 837 109 835 836 (by decide +kernel)
set_option maxRecDepth 100000 in
theorem oX9_needNumber : dm_okM RX9 rX9_needNumber.2.1 false qX9_needNumber = true := by decide +kernel
set_option maxRecDepth 100000 in
theorem pX9_needNumber : dm_RP 106 rX9_needNumber := dm_RPof 690 109 688 689 (by decide +kernel)
set_option maxRecDepth 100000 in
theorem oX9_seeTold : dm_okM RX9 rX9_seeTold.2.1 false qX9_seeTold = true := by decide +kernel
set_option maxRecDepth 100000 in
theorem pX9_seeTold : dm_RP 107 rX9_seeTold := dm_RPof 744 109 742 743 (by decide +kernel)
set_option maxRecDepth 100000 in
theorem oX10_longer : dm_okM RX10 rX10_longer.2.1 false qX10_longer = true := by decide +kernel
set_option maxRecDepth 100000 in
theorem pX10_longer : dm_RP 108 rX10_longer := dm_RPof 542 123 541 0 (by decide +kernel)
set_option maxRecDepth 100000 in
theorem oX10_coded : dm_okM RX10 rX10_coded.2.1 false qX10_coded = true := by decide +kernel
set_option maxRecDepth 100000 in
theorem pX10_coded : dm_RP 109 rX10_coded := dm_RPof 546 123 545 0 (by decide +kernel)
