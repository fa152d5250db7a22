theorem zmlp_0_3 : zmlP 0 3 mX3_init 3 0 0 := zmlP3 (zmem 176 (by decide +kernel))
theorem zmlp_0_31 : zmlP 0 31 mX9_hasPiece 0 9 1 := zmlP0 ⟨zmd_mX9_hasPiece, .inr ⟨"StrangerHall", zmem 1143 (by decide +kernel)⟩, zmem 903 (by decide +kernel), zsel (n := 9) 52 (by decide +kernel), ⟨8, rfl, RX9, TX9, 9, rfl, rfl⟩, by decide +kernel⟩
theorem zmlp_0_44 : zmlP 0 44 mX0_choose 0 1 4 := zmlP0 ⟨zmd_mX0_choose, .inl (zmem 1144 (by decide +kernel)), zmem 1146 (by decide +kernel), zsel (n := 9) 85 (by decide +kernel), ⟨0, rfl, RX0, TX0, 9, rfl, rfl⟩, by decide +kernel⟩
theorem zmlp_0_52 : zmlP 0 52 mX0_tryHouse 0 1 5 := zmlP0 ⟨zmd_mX0_tryHouse, .inl (zmem 1148 (by decide +kernel)), zmem 1150 (by decide +kernel), zsel (n := 9) 86 (by decide +kernel), ⟨0, rfl, RX0, TX0, 9, rfl, rfl⟩, by decide +kernel⟩
theorem zmlp_0_56 : zmlP 0 56 mX10_isWithin 1 10 3 := zmlP1 ⟨zmd_mX10_isWithin, .inr ⟨"StrangerHall", zmem 1152 (by decide +kernel)⟩, zmem 453 (by decide +kernel), by decide +kernel⟩
theorem zmlp_0_63 : zmlP 0 63 mX6_hasBid 0 6 1 := zmlP0 ⟨zmd_mX6_hasBid, .inr ⟨"StrangerHall", zmem 1153 (by decide +kernel)⟩, zmem 1101 (by decide +kernel), zsel (n := 14) 81 (by decide +kernel), ⟨5, rfl, RX6, TX6, 14, rfl, rfl⟩, by decide +kernel⟩
theorem zmlp_0_79 : zmlP 0 79 mX6_bidCost 0 6 2 := zmlP0 ⟨zmd_mX6_bidCost, .inr ⟨"StrangerHall", zmem 1154 (by decide +kernel)⟩, zmem 1117 (by decide +kernel), zsel (n := 14) 83 (by decide +kernel), ⟨5, rfl, RX6, TX6, 14, rfl, rfl⟩, by decide +kernel⟩
theorem zmlp_1_3 : zmlP 1 3 mX3_init 3 0 0 := zmlP3 (zmem 38 (by decide +kernel))
theorem zmlp_1_11 : zmlP 1 11 mX8_init 2 8 0 := zmlP2 ⟨zmd_mX8_init, .inr ⟨"StrangerHall", zmem 41 (by decide +kernel)⟩, zmem 42 (by decide +kernel), rfl, rfl, by decide +kernel⟩
theorem zmlp_1_32 : zmlP 1 32 mX8_begin 0 8 1 := zmlP0 ⟨zmd_mX8_begin, .inr ⟨"StrangerHall", zmem 522 (by decide +kernel)⟩, zmem 524 (by decide +kernel), zsel (n := 7) 6 (by decide +kernel), ⟨7, rfl, RX8, TX8, 7, rfl, rfl⟩, by decide +kernel⟩
theorem zmlp_1_36 : zmlP 1 36 mX1_statements 0 2 1 := zmlP0 ⟨zmd_mX1_statements, .inl (zmem 548 (by decide +kernel)), zmem 550 (by decide +kernel), zsel (n := 6) 10 (by decide +kernel), ⟨1, rfl, RX1, TX1, 6, rfl, rfl⟩, by decide +kernel⟩
theorem zmlp_1_43 : zmlP 1 43 mX1_refuse 0 2 1 := zmlP0 ⟨zmd_mX1_refuse, .inl (zmem 573 (by decide +kernel)), zmem 575 (by decide +kernel), zsel (n := 6) 16 (by decide +kernel), ⟨1, rfl, RX1, TX1, 6, rfl, rfl⟩, by decide +kernel⟩
theorem zmlp_1_46 : zmlP 1 46 mX1_emit 0 2 2 := zmlP0 ⟨zmd_mX1_emit, .inl (zmem 594 (by decide +kernel)), zmem 596 (by decide +kernel), zsel (n := 6) 21 (by decide +kernel), ⟨1, rfl, RX1, TX1, 6, rfl, rfl⟩, by decide +kernel⟩
theorem zmlp_1_56 : zmlP 1 56 mX8_takesSign 0 8 1 := zmlP0 ⟨zmd_mX8_takesSign, .inr ⟨"StrangerHall", zmem 565 (by decide +kernel)⟩, zmem 567 (by decide +kernel), zsel (n := 7) 14 (by decide +kernel), ⟨7, rfl, RX8, TX8, 7, rfl, rfl⟩, by decide +kernel⟩
theorem zmlp_1_59 : zmlP 1 59 mX8_isSign 0 8 1 := zmlP0 ⟨zmd_mX8_isSign, .inr ⟨"StrangerHall", zmem 663 (by decide +kernel)⟩, zmem 571 (by decide +kernel), zsel (n := 7) 15 (by decide +kernel), ⟨7, rfl, RX8, TX8, 7, rfl, rfl⟩, by decide +kernel⟩
theorem zmlp_1_62 : zmlP 1 62 mX8_advance 0 8 0 := zmlP0 ⟨zmd_mX8_advance, .inr ⟨"StrangerHall", zmem 560 (by decide +kernel)⟩, zmem 531 (by decide +kernel), zsel (n := 7) 7 (by decide +kernel), ⟨7, rfl, RX8, TX8, 7, rfl, rfl⟩, by decide +kernel⟩
theorem zmlp_1_65 : zmlP 1 65 mX1_statement 0 2 1 := zmlP0 ⟨zmd_mX1_statement, .inl (zmem 552 (by decide +kernel)), zmem 554 (by decide +kernel), zsel (n := 6) 11 (by decide +kernel), ⟨1, rfl, RX1, TX1, 6, rfl, rfl⟩, by decide +kernel⟩
theorem zmlp_1_68 : zmlP 1 68 mX8_variable 0 8 0 := zmlP0 ⟨zmd_mX8_variable, .inr ⟨"StrangerHall", zmem 556 (by decide +kernel)⟩, zmem 558 (by decide +kernel), zsel (n := 7) 12 (by decide +kernel), ⟨7, rfl, RX8, TX8, 7, rfl, rfl⟩, by decide +kernel⟩
theorem zmlp_1_72 : zmlP 1 72 mX1_expect 0 2 1 := zmlP0 ⟨zmd_mX1_expect, .inl (zmem 561 (by decide +kernel)), zmem 563 (by decide +kernel), zsel (n := 6) 13 (by decide +kernel), ⟨1, rfl, RX1, TX1, 6, rfl, rfl⟩, by decide +kernel⟩
theorem zmlp_1_75 : zmlP 1 75 mX1_expression 0 2 2 := zmlP0 ⟨zmd_mX1_expression, .inl (zmem 577 (by decide +kernel)), zmem 579 (by decide +kernel), zsel (n := 6) 17 (by decide +kernel), ⟨1, rfl, RX1, TX1, 6, rfl, rfl⟩, by decide +kernel⟩
theorem zmlp_1_80 : zmlP 1 80 mX8_takesWord 0 8 1 := zmlP0 ⟨zmd_mX8_takesWord, .inr ⟨"StrangerHall", zmem 599 (by decide +kernel)⟩, zmem 601 (by decide +kernel), zsel (n := 7) 22 (by decide +kernel), ⟨7, rfl, RX8, TX8, 7, rfl, rfl⟩, by decide +kernel⟩
theorem zmlp_1_84 : zmlP 1 84 mX1_enclosed 0 2 3 := zmlP0 ⟨zmd_mX1_enclosed, .inl (zmem 655 (by decide +kernel)), zmem 657 (by decide +kernel), zsel (n := 6) 24 (by decide +kernel), ⟨1, rfl, RX1, TX1, 6, rfl, rfl⟩, by decide +kernel⟩
theorem zmlp_1_92 : zmlP 1 92 mX1_loop 0 2 1 := zmlP0 ⟨zmd_mX1_loop, .inl (zmem 673 (by decide +kernel)), zmem 675 (by decide +kernel), zsel (n := 6) 27 (by decide +kernel), ⟨1, rfl, RX1, TX1, 6, rfl, rfl⟩, by decide +kernel⟩
theorem zmlp_1_97 : zmlP 1 97 mX1_branch 0 2 1 := zmlP0 ⟨zmd_mX1_branch, .inl (zmem 686 (by decide +kernel)), zmem 688 (by decide +kernel), zsel (n := 6) 30 (by decide +kernel), ⟨1, rfl, RX1, TX1, 6, rfl, rfl⟩, by decide +kernel⟩
theorem zmlp_1_100 : zmlP 1 100 mX1_block 0 2 1 := zmlP0 ⟨zmd_mX1_block, .inl (zmem 677 (by decide +kernel)), zmem 679 (by decide +kernel), zsel (n := 6) 28 (by decide +kernel), ⟨1, rfl, RX1, TX1, 6, rfl, rfl⟩, by decide +kernel⟩
theorem zmlp_1_103 : zmlP 1 103 mX1_aim 0 2 1 := zmlP0 ⟨zmd_mX1_aim, .inl (zmem 681 (by decide +kernel)), zmem 683 (by decide +kernel), zsel (n := 6) 29 (by decide +kernel), ⟨1, rfl, RX1, TX1, 6, rfl, rfl⟩, by decide +kernel⟩
theorem zmlp_1_108 : zmlP 1 108 mX1_opens 0 2 2 := zmlP0 ⟨zmd_mX1_opens, .inl (zmem 659 (by decide +kernel)), zmem 661 (by decide +kernel), zsel (n := 6) 25 (by decide +kernel), ⟨1, rfl, RX1, TX1, 6, rfl, rfl⟩, by decide +kernel⟩
theorem zmlp_1_111 : zmlP 1 111 mX1_operand 0 2 2 := zmlP0 ⟨zmd_mX1_operand, .inl (zmem 581 (by decide +kernel)), zmem 583 (by decide +kernel), zsel (n := 6) 18 (by decide +kernel), ⟨1, rfl, RX1, TX1, 6, rfl, rfl⟩, by decide +kernel⟩
theorem zmlp_1_114 : zmlP 1 114 mX1_signKind 0 2 0 := zmlP0 ⟨zmd_mX1_signKind, .inl (zmem 664 (by decide +kernel)), zmem 666 (by decide +kernel), zsel (n := 6) 26 (by decide +kernel), ⟨1, rfl, RX1, TX1, 6, rfl, rfl⟩, by decide +kernel⟩
theorem zmlp_1_117 : zmlP 1 117 mX1_signLevel 1 2 1 := zmlP1 ⟨zmd_mX1_signLevel, .inl (zmem 668 (by decide +kernel)), zmem 669 (by decide +kernel), by decide +kernel⟩
theorem zmlp_1_121 : zmlP 1 121 mX1_unit 0 2 1 := zmlP0 ⟨zmd_mX1_unit, .inl (zmem 585 (by decide +kernel)), zmem 587 (by decide +kernel), zsel (n := 6) 19 (by decide +kernel), ⟨1, rfl, RX1, TX1, 6, rfl, rfl⟩, by decide +kernel⟩
theorem zmlp_1_124 : zmlP 1 124 mX1_number 0 2 0 := zmlP0 ⟨zmd_mX1_number, .inl (zmem 589 (by decide +kernel)), zmem 591 (by decide +kernel), zsel (n := 6) 20 (by decide +kernel), ⟨1, rfl, RX1, TX1, 6, rfl, rfl⟩, by decide +kernel⟩
theorem zmlp_2_3 : zmlP 2 3 mX3_init 3 0 0 := zmlP3 (zmem 103 (by decide +kernel))
theorem zmlp_2_11 : zmlP 2 11 mX5_init 2 5 0 := zmlP2 ⟨zmd_mX5_init, .inr ⟨"StrangerHall", zmem 106 (by decide +kernel)⟩, zmem 107 (by decide +kernel), rfl, rfl, by decide +kernel⟩
theorem zmlp_2_28 : zmlP 2 28 mX3_init 2 4 0 := zmlP2 ⟨zmd_mX3_init, .inr ⟨"StrangerHall", zmem 130 (by decide +kernel)⟩, zmem 131 (by decide +kernel), rfl, rfl, by decide +kernel⟩
theorem zmlp_2_29 : zmlP 2 29 mX10_isWithin 1 10 3 := zmlP1 ⟨zmd_mX10_isWithin, .inr ⟨"StrangerHall", zmem 969 (by decide +kernel)⟩, zmem 453 (by decide +kernel), by decide +kernel⟩
theorem zmlp_2_40 : zmlP 2 40 mX9_hasPiece 0 9 1 := zmlP0 ⟨zmd_mX9_hasPiece, .inr ⟨"StrangerHall", zmem 935 (by decide +kernel)⟩, zmem 903 (by decide +kernel), zsel (n := 9) 52 (by decide +kernel), ⟨8, rfl, RX9, TX9, 9, rfl, rfl⟩, by decide +kernel⟩
theorem zmlp_2_55 : zmlP 2 55 mX5_sumOf 0 5 2 := zmlP0 ⟨zmd_mX5_sumOf, .inr ⟨"StrangerHall", zmem 936 (by decide +kernel)⟩, zmem 824 (by decide +kernel), zsel (n := 5) 45 (by decide +kernel), ⟨4, rfl, RX5, TX5, 5, rfl, rfl⟩, by decide +kernel⟩
theorem zmlp_2_69 : zmlP 2 69 mX7_begin 0 7 2 := zmlP0 ⟨zmd_mX7_begin, .inr ⟨"StrangerHall", zmem 937 (by decide +kernel)⟩, zmem 939 (by decide +kernel), zsel (n := 11) 57 (by decide +kernel), ⟨6, rfl, RX7, TX7, 11, rfl, rfl⟩, by decide +kernel⟩
theorem zmlp_2_78 : zmlP 2 78 mX7_setStart 0 7 2 := zmlP0 ⟨zmd_mX7_setStart, .inr ⟨"StrangerHall", zmem 945 (by decide +kernel)⟩, zmem 947 (by decide +kernel), zsel (n := 11) 59 (by decide +kernel), ⟨6, rfl, RX7, TX7, 11, rfl, rfl⟩, by decide +kernel⟩
theorem zmlp_2_84 : zmlP 2 84 mX7_setEnd 0 7 3 := zmlP0 ⟨zmd_mX7_setEnd, .inr ⟨"StrangerHall", zmem 949 (by decide +kernel)⟩, zmem 951 (by decide +kernel), zsel (n := 11) 60 (by decide +kernel), ⟨6, rfl, RX7, TX7, 11, rfl, rfl⟩, by decide +kernel⟩
theorem zmlp_2_88 : zmlP 2 88 mX7_isNarrow 0 7 0 := zmlP0 ⟨zmd_mX7_isNarrow, .inr ⟨"StrangerHall", zmem 957 (by decide +kernel)⟩, zmem 959 (by decide +kernel), zsel (n := 11) 62 (by decide +kernel), ⟨6, rfl, RX7, TX7, 11, rfl, rfl⟩, by decide +kernel⟩
theorem zmlp_2_107 : zmlP 2 107 mX2_settle 0 3 4 := zmlP0 ⟨zmd_mX2_settle, .inl (zmem 961 (by decide +kernel)), zmem 963 (by decide +kernel), zsel (n := 5) 63 (by decide +kernel), ⟨2, rfl, RX2, TX2, 5, rfl, rfl⟩, by decide +kernel⟩
theorem zmlp_2_117 : zmlP 2 117 mX2_countLie 0 3 1 := zmlP0 ⟨zmd_mX2_countLie, .inl (zmem 965 (by decide +kernel)), zmem 967 (by decide +kernel), zsel (n := 5) 64 (by decide +kernel), ⟨2, rfl, RX2, TX2, 5, rfl, rfl⟩, by decide +kernel⟩
theorem zmlp_2_124 : zmlP 2 124 mX2_reward 0 3 2 := zmlP0 ⟨zmd_mX2_reward, .inl (zmem 970 (by decide +kernel)), zmem 972 (by decide +kernel), zsel (n := 5) 65 (by decide +kernel), ⟨2, rfl, RX2, TX2, 5, rfl, rfl⟩, by decide +kernel⟩
theorem zmlp_2_127 : zmlP 2 127 mX2_stay 0 3 2 := zmlP0 ⟨zmd_mX2_stay, .inl (zmem 979 (by decide +kernel)), zmem 981 (by decide +kernel), zsel (n := 5) 67 (by decide +kernel), ⟨2, rfl, RX2, TX2, 5, rfl, rfl⟩, by decide +kernel⟩
theorem zmlp_2_134 : zmlP 2 134 mX2_makeVoid 0 3 2 := zmlP0 ⟨zmd_mX2_makeVoid, .inl (zmem 987 (by decide +kernel)), zmem 989 (by decide +kernel), zsel (n := 5) 69 (by decide +kernel), ⟨2, rfl, RX2, TX2, 5, rfl, rfl⟩, by decide +kernel⟩
theorem zmlp_2_139 : zmlP 2 139 mX2_pay 0 3 2 := zmlP0 ⟨zmd_mX2_pay, .inl (zmem 975 (by decide +kernel)), zmem 977 (by decide +kernel), zsel (n := 5) 66 (by decide +kernel), ⟨2, rfl, RX2, TX2, 5, rfl, rfl⟩, by decide +kernel⟩
theorem zmlp_2_142 : zmlP 2 142 mX2_keep 0 3 1 := zmlP0 ⟨zmd_mX2_keep, .inl (zmem 983 (by decide +kernel)), zmem 985 (by decide +kernel), zsel (n := 5) 68 (by decide +kernel), ⟨2, rfl, RX2, TX2, 5, rfl, rfl⟩, by decide +kernel⟩
theorem zmlp_2_152 : zmlP 2 152 mX2_reopen 0 3 2 := zmlP0 ⟨zmd_mX2_reopen, .inl (zmem 991 (by decide +kernel)), zmem 993 (by decide +kernel), zsel (n := 5) 70 (by decide +kernel), ⟨2, rfl, RX2, TX2, 5, rfl, rfl⟩, by decide +kernel⟩
theorem zmlp_2_156 : zmlP 2 156 mX2_hangsOnAhead 1 3 1 := zmlP1 ⟨zmd_mX2_hangsOnAhead, .inl (zmem 999 (by decide +kernel)), zmem 1000 (by decide +kernel), by decide +kernel⟩
theorem zmlp_2_160 : zmlP 2 160 mX2_returnPledges 0 3 1 := zmlP0 ⟨zmd_mX2_returnPledges, .inl (zmem 1002 (by decide +kernel)), zmem 1004 (by decide +kernel), zsel (n := 5) 72 (by decide +kernel), ⟨2, rfl, RX2, TX2, 5, rfl, rfl⟩, by decide +kernel⟩
theorem zmlp_2_164 : zmlP 2 164 mX6_reopen 0 6 0 := zmlP0 ⟨zmd_mX6_reopen, .inr ⟨"StrangerHall", zmem 995 (by decide +kernel)⟩, zmem 997 (by decide +kernel), zsel (n := 14) 71 (by decide +kernel), ⟨5, rfl, RX6, TX6, 14, rfl, rfl⟩, by decide +kernel⟩
theorem zmlp_3_1 : zmlP 3 1 mX3_init 3 0 0 := zmlP3 (zmem 133 (by decide +kernel))
theorem zmlp_4_9 : zmlP 4 9 mX8_begin 0 8 1 := zmlP0 ⟨zmd_mX8_begin, .inr ⟨"StrangerHall", zmem 694 (by decide +kernel)⟩, zmem 524 (by decide +kernel), zsel (n := 7) 6 (by decide +kernel), ⟨7, rfl, RX8, TX8, 7, rfl, rfl⟩, by decide +kernel⟩
theorem zmlp_4_17 : zmlP 4 17 mX8_isWord 0 8 1 := zmlP0 ⟨zmd_mX8_isWord, .inr ⟨"StrangerHall", zmem 696 (by decide +kernel)⟩, zmem 605 (by decide +kernel), zsel (n := 7) 23 (by decide +kernel), ⟨7, rfl, RX8, TX8, 7, rfl, rfl⟩, by decide +kernel⟩
theorem zmlp_4_21 : zmlP 4 21 mX8_advance 0 8 0 := zmlP0 ⟨zmd_mX8_advance, .inr ⟨"StrangerHall", zmem 697 (by decide +kernel)⟩, zmem 531 (by decide +kernel), zsel (n := 7) 7 (by decide +kernel), ⟨7, rfl, RX8, TX8, 7, rfl, rfl⟩, by decide +kernel⟩
theorem zmlp_4_24 : zmlP 4 24 mX4_terms 1 0 1 := zmlP1 ⟨zmd_mX4_terms, .inl (zmem 698 (by decide +kernel)), zmem 699 (by decide +kernel), by decide +kernel⟩
theorem zmlp_4_37 : zmlP 4 37 mX4_term 1 0 1 := zmlP1 ⟨zmd_mX4_term, .inl (zmem 701 (by decide +kernel)), zmem 702 (by decide +kernel), by decide +kernel⟩
theorem zmlp_4_40 : zmlP 4 40 mX8_isSign 0 8 1 := zmlP0 ⟨zmd_mX8_isSign, .inr ⟨"StrangerHall", zmem 711 (by decide +kernel)⟩, zmem 571 (by decide +kernel), zsel (n := 7) 15 (by decide +kernel), ⟨7, rfl, RX8, TX8, 7, rfl, rfl⟩, by decide +kernel⟩
theorem zmlp_4_44 : zmlP 4 44 mX8_takesSign 0 8 1 := zmlP0 ⟨zmd_mX8_takesSign, .inr ⟨"StrangerHall", zmem 708 (by decide +kernel)⟩, zmem 567 (by decide +kernel), zsel (n := 7) 14 (by decide +kernel), ⟨7, rfl, RX8, TX8, 7, rfl, rfl⟩, by decide +kernel⟩
theorem zmlp_4_47 : zmlP 4 47 mX8_takesNumber 0 8 0 := zmlP0 ⟨zmd_mX8_takesNumber, .inr ⟨"StrangerHall", zmem 704 (by decide +kernel)⟩, zmem 706 (by decide +kernel), zsel (n := 7) 31 (by decide +kernel), ⟨7, rfl, RX8, TX8, 7, rfl, rfl⟩, by decide +kernel⟩
theorem zmlp_4_53 : zmlP 4 53 mX8_takesWord 0 8 1 := zmlP0 ⟨zmd_mX8_takesWord, .inr ⟨"StrangerHall", zmem 710 (by decide +kernel)⟩, zmem 601 (by decide +kernel), zsel (n := 7) 22 (by decide +kernel), ⟨7, rfl, RX8, TX8, 7, rfl, rfl⟩, by decide +kernel⟩
theorem zmlp_5_3 : zmlP 5 3 mX3_init 3 0 0 := zmlP3 (zmem 109 (by decide +kernel))
theorem zmlp_5_29 : zmlP 5 29 mX5_clear 0 5 0 := zmlP0 ⟨zmd_mX5_clear, .inl (zmem 775 (by decide +kernel)), zmem 777 (by decide +kernel), zsel (n := 5) 38 (by decide +kernel), ⟨4, rfl, RX5, TX5, 5, rfl, rfl⟩, by decide +kernel⟩
theorem zmlp_5_37 : zmlP 5 37 mX5_runTo 0 5 2 := zmlP0 ⟨zmd_mX5_runTo, .inl (zmem 779 (by decide +kernel)), zmem 781 (by decide +kernel), zsel (n := 5) 39 (by decide +kernel), ⟨4, rfl, RX5, TX5, 5, rfl, rfl⟩, by decide +kernel⟩
theorem zmlp_5_41 : zmlP 5 41 mX5_isHalted 0 5 1 := zmlP0 ⟨zmd_mX5_isHalted, .inl (zmem 783 (by decide +kernel)), zmem 785 (by decide +kernel), zsel (n := 5) 40 (by decide +kernel), ⟨4, rfl, RX5, TX5, 5, rfl, rfl⟩, by decide +kernel⟩
theorem zmlp_5_45 : zmlP 5 45 mX9_hasCode 0 9 1 := zmlP0 ⟨zmd_mX9_hasCode, .inr ⟨"StrangerHall", zmem 787 (by decide +kernel)⟩, zmem 747 (by decide +kernel), zsel (n := 9) 34 (by decide +kernel), ⟨8, rfl, RX9, TX9, 9, rfl, rfl⟩, by decide +kernel⟩
theorem zmlp_5_55 : zmlP 5 55 mX5_step 0 5 2 := zmlP0 ⟨zmd_mX5_step, .inl (zmem 788 (by decide +kernel)), zmem 790 (by decide +kernel), zsel (n := 5) 41 (by decide +kernel), ⟨4, rfl, RX5, TX5, 5, rfl, rfl⟩, by decide +kernel⟩
theorem zmlp_5_59 : zmlP 5 59 mX5_show 0 5 2 := zmlP0 ⟨zmd_mX5_show, .inl (zmem 771 (by decide +kernel)), zmem 773 (by decide +kernel), zsel (n := 5) 37 (by decide +kernel), ⟨4, rfl, RX5, TX5, 5, rfl, rfl⟩, by decide +kernel⟩
theorem zmlp_5_62 : zmlP 5 62 mX10_isWithin 1 10 3 := zmlP1 ⟨zmd_mX10_isWithin, .inr ⟨"StrangerHall", zmem 1196 (by decide +kernel)⟩, zmem 453 (by decide +kernel), by decide +kernel⟩
theorem zmlp_5_66 : zmlP 5 66 mX5_forget 0 5 0 := zmlP0 ⟨zmd_mX5_forget, .inl (zmem 1201 (by decide +kernel)), zmem 758 (by decide +kernel), zsel (n := 5) 35 (by decide +kernel), ⟨4, rfl, RX5, TX5, 5, rfl, rfl⟩, by decide +kernel⟩
theorem zmlp_5_69 : zmlP 5 69 mX9_partOf 0 9 3 := zmlP0 ⟨zmd_mX9_partOf, .inr ⟨"StrangerHall", zmem 1202 (by decide +kernel)⟩, zmem 1183 (by decide +kernel), zsel (n := 9) 88 (by decide +kernel), ⟨8, rfl, RX9, TX9, 9, rfl, rfl⟩, by decide +kernel⟩
theorem zmlp_5_73 : zmlP 5 73 mX5_push 0 5 1 := zmlP0 ⟨zmd_mX5_push, .inl (zmem 792 (by decide +kernel)), zmem 794 (by decide +kernel), zsel (n := 5) 42 (by decide +kernel), ⟨4, rfl, RX5, TX5, 5, rfl, rfl⟩, by decide +kernel⟩
theorem zmlp_5_77 : zmlP 5 77 mX5_pop 0 5 0 := zmlP0 ⟨zmd_mX5_pop, .inl (zmem 796 (by decide +kernel)), zmem 798 (by decide +kernel), zsel (n := 5) 43 (by decide +kernel), ⟨4, rfl, RX5, TX5, 5, rfl, rfl⟩, by decide +kernel⟩
theorem zmlp_5_81 : zmlP 5 81 mX5_putOut 0 5 1 := zmlP0 ⟨zmd_mX5_putOut, .inl (zmem 800 (by decide +kernel)), zmem 802 (by decide +kernel), zsel (n := 5) 44 (by decide +kernel), ⟨4, rfl, RX5, TX5, 5, rfl, rfl⟩, by decide +kernel⟩
theorem zmlp_5_84 : zmlP 5 84 mX5_worked 1 5 3 := zmlP1 ⟨zmd_mX5_worked, .inl (zmem 804 (by decide +kernel)), zmem 805 (by decide +kernel), by decide +kernel⟩
theorem zmlp_5_87 : zmlP 5 87 mX5_pageSum 0 5 1 := zmlP0 ⟨zmd_mX5_pageSum, .inl (zmem 826 (by decide +kernel)), zmem 828 (by decide +kernel), zsel (n := 5) 46 (by decide +kernel), ⟨4, rfl, RX5, TX5, 5, rfl, rfl⟩, by decide +kernel⟩
theorem zmlp_5_91 : zmlP 5 91 mX10_joined 1 10 2 := zmlP1 ⟨zmd_mX10_joined, .inr ⟨"StrangerHall", zmem 830 (by decide +kernel)⟩, zmem 424 (by decide +kernel), by decide +kernel⟩
theorem zmlp_5_95 : zmlP 5 95 mX5_besideOf 0 5 2 := zmlP0 ⟨zmd_mX5_besideOf, .inl (zmem 853 (by decide +kernel)), zmem 840 (by decide +kernel), zsel (n := 5) 47 (by decide +kernel), ⟨4, rfl, RX5, TX5, 5, rfl, rfl⟩, by decide +kernel⟩
theorem zmlp_6_3 : zmlP 6 3 mX3_init 3 0 0 := zmlP3 (zmem 221 (by decide +kernel))
theorem zmlp_6_11 : zmlP 6 11 mX7_init 2 7 0 := zmlP2 ⟨zmd_mX7_init, .inr ⟨"StrangerHall", zmem 224 (by decide +kernel)⟩, zmem 225 (by decide +kernel), rfl, rfl, by decide +kernel⟩
theorem zmlp_6_50 : zmlP 6 50 mX10_isWithin 1 10 3 := zmlP1 ⟨zmd_mX10_isWithin, .inr ⟨"StrangerHall", zmem 1103 (by decide +kernel)⟩, zmem 453 (by decide +kernel), by decide +kernel⟩
theorem zmlp_6_74 : zmlP 6 74 mJ9_max_f86c9 12 0 2 := zmlP12 (zmem 1122 (by decide +kernel))
theorem zmlp_7_3 : zmlP 7 3 mX3_init 3 0 0 := zmlP3 (zmem 227 (by decide +kernel))
theorem zmlp_7_15 : zmlP 7 15 mX7_ask 0 7 1 := zmlP0 ⟨zmd_mX7_ask, .inl (zmem 941 (by decide +kernel)), zmem 943 (by decide +kernel), zsel (n := 11) 58 (by decide +kernel), ⟨6, rfl, RX7, TX7, 11, rfl, rfl⟩, by decide +kernel⟩
theorem zmlp_7_50 : zmlP 7 50 mX7_halve 0 7 0 := zmlP0 ⟨zmd_mX7_halve, .inl (zmem 1032 (by decide +kernel)), zmem 1034 (by decide +kernel), zsel (n := 11) 76 (by decide +kernel), ⟨6, rfl, RX7, TX7, 11, rfl, rfl⟩, by decide +kernel⟩
theorem zmlp_7_53 : zmlP 7 53 mX7_middle 0 7 0 := zmlP0 ⟨zmd_mX7_middle, .inl (zmem 1036 (by decide +kernel)), zmem 1015 (by decide +kernel), zsel (n := 11) 73 (by decide +kernel), ⟨6, rfl, RX7, TX7, 11, rfl, rfl⟩, by decide +kernel⟩
theorem zmlp_7_57 : zmlP 7 57 mX7_setStart 0 7 2 := zmlP0 ⟨zmd_mX7_setStart, .inl (zmem 1037 (by decide +kernel)), zmem 947 (by decide +kernel), zsel (n := 11) 59 (by decide +kernel), ⟨6, rfl, RX7, TX7, 11, rfl, rfl⟩, by decide +kernel⟩
theorem zmlp_7_61 : zmlP 7 61 mX7_setEnd 0 7 3 := zmlP0 ⟨zmd_mX7_setEnd, .inl (zmem 1038 (by decide +kernel)), zmem 951 (by decide +kernel), zsel (n := 11) 60 (by decide +kernel), ⟨6, rfl, RX7, TX7, 11, rfl, rfl⟩, by decide +kernel⟩
theorem zmlp_8_3 : zmlP 8 3 mX3_init 3 0 0 := zmlP3 (zmem 44 (by decide +kernel))
theorem zmlp_8_19 : zmlP 8 19 mJ9_min_7cf53 11 0 2 := zmlP11 (zmem 526 (by decide +kernel))
theorem zmlp_8_31 : zmlP 8 31 mX8_advance 0 8 0 := zmlP0 ⟨zmd_mX8_advance, .inl (zmem 529 (by decide +kernel)), zmem 531 (by decide +kernel), zsel (n := 7) 7 (by decide +kernel), ⟨7, rfl, RX8, TX8, 7, rfl, rfl⟩, by decide +kernel⟩
theorem zmlp_8_43 : zmlP 8 43 mX8_isDigit 1 8 1 := zmlP1 ⟨zmd_mX8_isDigit, .inl (zmem 533 (by decide +kernel)), zmem 534 (by decide +kernel), by decide +kernel⟩
theorem zmlp_8_47 : zmlP 8 47 mX8_readNumber 0 8 0 := zmlP0 ⟨zmd_mX8_readNumber, .inl (zmem 536 (by decide +kernel)), zmem 538 (by decide +kernel), zsel (n := 7) 8 (by decide +kernel), ⟨7, rfl, RX8, TX8, 7, rfl, rfl⟩, by decide +kernel⟩
theorem zmlp_8_50 : zmlP 8 50 mX8_isLetter 1 8 1 := zmlP1 ⟨zmd_mX8_isLetter, .inl (zmem 541 (by decide +kernel)), zmem 542 (by decide +kernel), by decide +kernel⟩
theorem zmlp_8_53 : zmlP 8 53 mX8_readWord 0 8 0 := zmlP0 ⟨zmd_mX8_readWord, .inl (zmem 544 (by decide +kernel)), zmem 546 (by decide +kernel), zsel (n := 7) 9 (by decide +kernel), ⟨7, rfl, RX8, TX8, 7, rfl, rfl⟩, by decide +kernel⟩
theorem zmlp_8_57 : zmlP 8 57 mJ0_length_8abf5 20 0 0 := zmlPx (by decide)
theorem zmlp_8_63 : zmlP 8 63 mJ0_charAt_5068e 21 0 1 := zmlPx (by decide)
theorem zmlp_8_67 : zmlP 8 67 mX8_isSign 0 8 1 := zmlP0 ⟨zmd_mX8_isSign, .inl (zmem 569 (by decide +kernel)), zmem 571 (by decide +kernel), zsel (n := 7) 15 (by decide +kernel), ⟨7, rfl, RX8, TX8, 7, rfl, rfl⟩, by decide +kernel⟩
theorem zmlp_8_70 : zmlP 8 70 mX8_isWord 0 8 1 := zmlP0 ⟨zmd_mX8_isWord, .inl (zmem 603 (by decide +kernel)), zmem 605 (by decide +kernel), zsel (n := 7) 23 (by decide +kernel), ⟨7, rfl, RX8, TX8, 7, rfl, rfl⟩, by decide +kernel⟩
theorem zmlp_9_3 : zmlP 9 3 mX3_init 3 0 0 := zmlP3 (zmem 212 (by decide +kernel))
theorem zmlp_9_32 : zmlP 9 32 mX6_init 2 6 0 := zmlP2 ⟨zmd_mX6_init, .inr ⟨"StrangerHall", zmem 218 (by decide +kernel)⟩, zmem 219 (by decide +kernel), rfl, rfl, by decide +kernel⟩
theorem zmlp_9_39 : zmlP 9 39 mJ9_min_7cf53 11 0 2 := zmlP11 (zmem 716 (by decide +kernel))
theorem zmlp_10_1 : zmlP 10 1 mX3_init 3 0 0 := zmlP3 (zmem 30 (by decide +kernel))
theorem zmlp_10_9 : zmlP 10 9 mX1_init 2 2 0 := zmlP2 ⟨zmd_mX1_init, .inr ⟨"StrangerHall", zmem 35 (by decide +kernel)⟩, zmem 36 (by decide +kernel), rfl, rfl, by decide +kernel⟩
theorem zmlp_10_18 : zmlP 10 18 mX2_init 2 3 0 := zmlP2 ⟨zmd_mX2_init, .inr ⟨"StrangerHall", zmem 100 (by decide +kernel)⟩, zmem 101 (by decide +kernel), rfl, rfl, by decide +kernel⟩
theorem zmlp_10_25 : zmlP 10 25 mX0_init 2 1 0 := zmlP2 ⟨zmd_mX0_init, .inr ⟨"StrangerHall", zmem 173 (by decide +kernel)⟩, zmem 174 (by decide +kernel), rfl, rfl, by decide +kernel⟩
theorem zmlp_10_40 : zmlP 10 40 mX9_init 2 9 0 := zmlP2 ⟨zmd_mX9_init, .inr ⟨"StrangerHall", zmem 209 (by decide +kernel)⟩, zmem 210 (by decide +kernel), rfl, rfl, by decide +kernel⟩
theorem zmlp_10_50 : zmlP 10 50 mX8_add 0 8 1 := zmlP0 ⟨zmd_mX8_add, .inr ⟨"StrangerHall", zmem 411 (by decide +kernel)⟩, zmem 413 (by decide +kernel), zsel (n := 7) 0 (by decide +kernel), ⟨7, rfl, RX8, TX8, 7, rfl, rfl⟩, by decide +kernel⟩
theorem zmlp_10_55 : zmlP 10 55 mX10_isWithin 1 10 3 := zmlP1 ⟨zmd_mX10_isWithin, .inl (zmem 452 (by decide +kernel)), zmem 453 (by decide +kernel), by decide +kernel⟩
theorem zmlp_10_65 : zmlP 10 65 mX1_compile 0 2 1 := zmlP0 ⟨zmd_mX1_compile, .inr ⟨"StrangerHall", zmem 518 (by decide +kernel)⟩, zmem 520 (by decide +kernel), zsel (n := 6) 5 (by decide +kernel), ⟨1, rfl, RX1, TX1, 6, rfl, rfl⟩, by decide +kernel⟩
theorem zmlp_10_72 : zmlP 10 72 mX4_leaves 1 0 2 := zmlP1 ⟨zmd_mX4_leaves, .inr ⟨"StrangerHall", zmem 691 (by decide +kernel)⟩, zmem 692 (by decide +kernel), by decide +kernel⟩
theorem zmlp_10_78 : zmlP 10 78 mX9_begin 0 9 3 := zmlP0 ⟨zmd_mX9_begin, .inr ⟨"StrangerHall", zmem 712 (by decide +kernel)⟩, zmem 714 (by decide +kernel), zsel (n := 9) 32 (by decide +kernel), ⟨8, rfl, RX9, TX9, 9, rfl, rfl⟩, by decide +kernel⟩
theorem zmlp_10_82 : zmlP 10 82 mX10_taskAt 0 10 1 := zmlP0 ⟨zmd_mX10_taskAt, .inl (zmem 726 (by decide +kernel)), zmem 728 (by decide +kernel), zsel (n := 8) 33 (by decide +kernel), ⟨9, rfl, RX10, TX10, 8, rfl, rfl⟩, by decide +kernel⟩
theorem zmlp_10_86 : zmlP 10 86 mX9_hasCode 0 9 1 := zmlP0 ⟨zmd_mX9_hasCode, .inr ⟨"StrangerHall", zmem 745 (by decide +kernel)⟩, zmem 747 (by decide +kernel), zsel (n := 9) 34 (by decide +kernel), ⟨8, rfl, RX9, TX9, 9, rfl, rfl⟩, by decide +kernel⟩
theorem zmlp_10_107 : zmlP 10 107 mX5_forget 0 5 0 := zmlP0 ⟨zmd_mX5_forget, .inr ⟨"StrangerHall", zmem 756 (by decide +kernel)⟩, zmem 758 (by decide +kernel), zsel (n := 5) 35 (by decide +kernel), ⟨4, rfl, RX5, TX5, 5, rfl, rfl⟩, by decide +kernel⟩
theorem zmlp_10_112 : zmlP 10 112 mX5_lengthOf 0 5 1 := zmlP0 ⟨zmd_mX5_lengthOf, .inr ⟨"StrangerHall", zmem 767 (by decide +kernel)⟩, zmem 769 (by decide +kernel), zsel (n := 5) 36 (by decide +kernel), ⟨4, rfl, RX5, TX5, 5, rfl, rfl⟩, by decide +kernel⟩
theorem zmlp_10_116 : zmlP 10 116 mX5_show 0 5 2 := zmlP0 ⟨zmd_mX5_show, .inr ⟨"StrangerHall", zmem 814 (by decide +kernel)⟩, zmem 773 (by decide +kernel), zsel (n := 5) 37 (by decide +kernel), ⟨4, rfl, RX5, TX5, 5, rfl, rfl⟩, by decide +kernel⟩
theorem zmlp_10_123 : zmlP 10 123 mX5_sumOf 0 5 2 := zmlP0 ⟨zmd_mX5_sumOf, .inr ⟨"StrangerHall", zmem 822 (by decide +kernel)⟩, zmem 824 (by decide +kernel), zsel (n := 5) 45 (by decide +kernel), ⟨4, rfl, RX5, TX5, 5, rfl, rfl⟩, by decide +kernel⟩
theorem zmlp_10_127 : zmlP 10 127 mX5_besideOf 0 5 2 := zmlP0 ⟨zmd_mX5_besideOf, .inr ⟨"StrangerHall", zmem 838 (by decide +kernel)⟩, zmem 840 (by decide +kernel), zsel (n := 5) 47 (by decide +kernel), ⟨4, rfl, RX5, TX5, 5, rfl, rfl⟩, by decide +kernel⟩
theorem zmlp_10_131 : zmlP 10 131 mX10_joined 1 10 2 := zmlP1 ⟨zmd_mX10_joined, .inl (zmem 423 (by decide +kernel)), zmem 424 (by decide +kernel), by decide +kernel⟩
theorem zmlp_10_134 : zmlP 10 134 mX5_climb 0 5 2 := zmlP0 ⟨zmd_mX5_climb, .inr ⟨"StrangerHall", zmem 849 (by decide +kernel)⟩, zmem 851 (by decide +kernel), zsel (n := 5) 48 (by decide +kernel), ⟨4, rfl, RX5, TX5, 5, rfl, rfl⟩, by decide +kernel⟩
theorem zmlp_10_137 : zmlP 10 137 mX9_divide 0 9 3 := zmlP0 ⟨zmd_mX9_divide, .inr ⟨"StrangerHall", zmem 861 (by decide +kernel)⟩, zmem 863 (by decide +kernel), zsel (n := 9) 49 (by decide +kernel), ⟨8, rfl, RX9, TX9, 9, rfl, rfl⟩, by decide +kernel⟩
theorem zmlp_10_153 : zmlP 10 153 mX10_houseAt 0 10 1 := zmlP0 ⟨zmd_mX10_houseAt, .inl (zmem 879 (by decide +kernel)), zmem 881 (by decide +kernel), zsel (n := 8) 50 (by decide +kernel), ⟨9, rfl, RX10, TX10, 8, rfl, rfl⟩, by decide +kernel⟩
theorem zmlp_10_166 : zmlP 10 166 mX10_pieceAt 0 10 2 := zmlP0 ⟨zmd_mX10_pieceAt, .inl (zmem 897 (by decide +kernel)), zmem 899 (by decide +kernel), zsel (n := 8) 51 (by decide +kernel), ⟨9, rfl, RX10, TX10, 8, rfl, rfl⟩, by decide +kernel⟩
theorem zmlp_10_179 : zmlP 10 179 mX6_giveTo 0 6 4 := zmlP0 ⟨zmd_mX6_giveTo, .inr ⟨"StrangerHall", zmem 905 (by decide +kernel)⟩, zmem 907 (by decide +kernel), zsel (n := 14) 53 (by decide +kernel), ⟨5, rfl, RX6, TX6, 14, rfl, rfl⟩, by decide +kernel⟩
theorem zmlp_10_186 : zmlP 10 186 mX6_dropBids 0 6 0 := zmlP0 ⟨zmd_mX6_dropBids, .inr ⟨"StrangerHall", zmem 909 (by decide +kernel)⟩, zmem 911 (by decide +kernel), zsel (n := 14) 54 (by decide +kernel), ⟨5, rfl, RX6, TX6, 14, rfl, rfl⟩, by decide +kernel⟩
theorem zmlp_10_199 : zmlP 10 199 mX9_isEndToldAhead 0 9 1 := zmlP0 ⟨zmd_mX9_isEndToldAhead, .inr ⟨"StrangerHall", zmem 927 (by decide +kernel)⟩, zmem 929 (by decide +kernel), zsel (n := 9) 55 (by decide +kernel), ⟨8, rfl, RX9, TX9, 9, rfl, rfl⟩, by decide +kernel⟩
theorem zmlp_10_205 : zmlP 10 205 mX2_beginQuarrel 0 3 4 := zmlP0 ⟨zmd_mX2_beginQuarrel, .inr ⟨"StrangerHall", zmem 931 (by decide +kernel)⟩, zmem 933 (by decide +kernel), zsel (n := 5) 56 (by decide +kernel), ⟨2, rfl, RX2, TX2, 5, rfl, rfl⟩, by decide +kernel⟩
theorem zmlp_10_209 : zmlP 10 209 mX2_judgeIfNarrow 0 3 2 := zmlP0 ⟨zmd_mX2_judgeIfNarrow, .inr ⟨"StrangerHall", zmem 953 (by decide +kernel)⟩, zmem 955 (by decide +kernel), zsel (n := 5) 61 (by decide +kernel), ⟨2, rfl, RX2, TX2, 5, rfl, rfl⟩, by decide +kernel⟩
theorem zmlp_10_234 : zmlP 10 234 mX7_middle 0 7 0 := zmlP0 ⟨zmd_mX7_middle, .inr ⟨"StrangerHall", zmem 1013 (by decide +kernel)⟩, zmem 1015 (by decide +kernel), zsel (n := 11) 73 (by decide +kernel), ⟨6, rfl, RX7, TX7, 11, rfl, rfl⟩, by decide +kernel⟩
theorem zmlp_10_240 : zmlP 10 240 mX7_hasTold 0 7 1 := zmlP0 ⟨zmd_mX7_hasTold, .inr ⟨"StrangerHall", zmem 1024 (by decide +kernel)⟩, zmem 1026 (by decide +kernel), zsel (n := 11) 74 (by decide +kernel), ⟨6, rfl, RX7, TX7, 11, rfl, rfl⟩, by decide +kernel⟩
theorem zmlp_10_244 : zmlP 10 244 mX7_tell 0 7 3 := zmlP0 ⟨zmd_mX7_tell, .inr ⟨"StrangerHall", zmem 1028 (by decide +kernel)⟩, zmem 1030 (by decide +kernel), zsel (n := 11) 75 (by decide +kernel), ⟨6, rfl, RX7, TX7, 11, rfl, rfl⟩, by decide +kernel⟩
theorem zmlp_10_252 : zmlP 10 252 mX10_earliestDue 0 10 0 := zmlP0 ⟨zmd_mX10_earliestDue, .inl (zmem 1063 (by decide +kernel)), zmem 1065 (by decide +kernel), zsel (n := 8) 77 (by decide +kernel), ⟨9, rfl, RX10, TX10, 8, rfl, rfl⟩, by decide +kernel⟩
theorem zmlp_10_255 : zmlP 10 255 mJ9_min_7cf53 11 0 2 := zmlP11 (zmem 1073 (by decide +kernel))
theorem zmlp_10_260 : zmlP 10 260 mJ9_max_7cf53 10 0 2 := zmlP10 (zmem 1074 (by decide +kernel))
theorem zmlp_10_263 : zmlP 10 263 mX10_lapseWhatIsDue 0 10 0 := zmlP0 ⟨zmd_mX10_lapseWhatIsDue, .inl (zmem 1077 (by decide +kernel)), zmem 1079 (by decide +kernel), zsel (n := 8) 79 (by decide +kernel), ⟨9, rfl, RX10, TX10, 8, rfl, rfl⟩, by decide +kernel⟩
theorem zmlp_10_266 : zmlP 10 266 mX6_hasBid 0 6 1 := zmlP0 ⟨zmd_mX6_hasBid, .inr ⟨"StrangerHall", zmem 1099 (by decide +kernel)⟩, zmem 1101 (by decide +kernel), zsel (n := 14) 81 (by decide +kernel), ⟨5, rfl, RX6, TX6, 14, rfl, rfl⟩, by decide +kernel⟩
theorem zmlp_10_269 : zmlP 10 269 mX6_setBid 0 6 4 := zmlP0 ⟨zmd_mX6_setBid, .inr ⟨"StrangerHall", zmem 1104 (by decide +kernel)⟩, zmem 1106 (by decide +kernel), zsel (n := 14) 82 (by decide +kernel), ⟨5, rfl, RX6, TX6, 14, rfl, rfl⟩, by decide +kernel⟩
theorem zmlp_10_272 : zmlP 10 272 mX6_bidCost 0 6 2 := zmlP0 ⟨zmd_mX6_bidCost, .inr ⟨"StrangerHall", zmem 1115 (by decide +kernel)⟩, zmem 1117 (by decide +kernel), zsel (n := 14) 83 (by decide +kernel), ⟨5, rfl, RX6, TX6, 14, rfl, rfl⟩, by decide +kernel⟩
theorem zmlp_10_278 : zmlP 10 278 mJ6_bitCount_0f7a4 1 0 1 := zmlP1 ⟨zmd_mJ6_bitCount_0f7a4, .inl (zmem 1133 (by decide +kernel)), zmem 1134 (by decide +kernel), by decide +kernel⟩
theorem zmlp_10_283 : zmlP 10 283 mX0_findBest 0 1 4 := zmlP0 ⟨zmd_mX0_findBest, .inr ⟨"StrangerHall", zmem 1139 (by decide +kernel)⟩, zmem 1141 (by decide +kernel), zsel (n := 9) 84 (by decide +kernel), ⟨0, rfl, RX0, TX0, 9, rfl, rfl⟩, by decide +kernel⟩
theorem zmlp_10_293 : zmlP 10 293 mX0_houseFor 0 1 1 := zmlP0 ⟨zmd_mX0_houseFor, .inr ⟨"StrangerHall", zmem 1156 (by decide +kernel)⟩, zmem 1158 (by decide +kernel), zsel (n := 9) 87 (by decide +kernel), ⟨0, rfl, RX0, TX0, 9, rfl, rfl⟩, by decide +kernel⟩
theorem zmlp_10_302 : zmlP 10 302 mX9_partOf 0 9 3 := zmlP0 ⟨zmd_mX9_partOf, .inr ⟨"StrangerHall", zmem 1181 (by decide +kernel)⟩, zmem 1183 (by decide +kernel), zsel (n := 9) 88 (by decide +kernel), ⟨8, rfl, RX9, TX9, 9, rfl, rfl⟩, by decide +kernel⟩
theorem zmlp_10_306 : zmlP 10 306 mX5_outOf 0 5 2 := zmlP0 ⟨zmd_mX5_outOf, .inr ⟨"StrangerHall", zmem 1192 (by decide +kernel)⟩, zmem 1194 (by decide +kernel), zsel (n := 5) 89 (by decide +kernel), ⟨4, rfl, RX5, TX5, 5, rfl, rfl⟩, by decide +kernel⟩
theorem zmlp_10_309 : zmlP 10 309 mX5_outOfPart 0 5 4 := zmlP0 ⟨zmd_mX5_outOfPart, .inr ⟨"StrangerHall", zmem 1197 (by decide +kernel)⟩, zmem 1199 (by decide +kernel), zsel (n := 5) 90 (by decide +kernel), ⟨4, rfl, RX5, TX5, 5, rfl, rfl⟩, by decide +kernel⟩
theorem zmlp_10_316 : zmlP 10 316 mX10_heldCoins 0 10 0 := zmlP0 ⟨zmd_mX10_heldCoins, .inl (zmem 431 (by decide +kernel)), zmem 433 (by decide +kernel), zsel (n := 8) 1 (by decide +kernel), ⟨9, rfl, RX10, TX10, 8, rfl, rfl⟩, by decide +kernel⟩
theorem zmlp_10_319 : zmlP 10 319 mX10_freeCoins 0 10 0 := zmlP0 ⟨zmd_mX10_freeCoins, .inl (zmem 439 (by decide +kernel)), zmem 441 (by decide +kernel), zsel (n := 8) 3 (by decide +kernel), ⟨9, rfl, RX10, TX10, 8, rfl, rfl⟩, by decide +kernel⟩
theorem zmlp_10_326 : zmlP 10 326 mX9_hasPiece 0 9 1 := zmlP0 ⟨zmd_mX9_hasPiece, .inr ⟨"StrangerHall", zmem 901 (by decide +kernel)⟩, zmem 903 (by decide +kernel), zsel (n := 9) 52 (by decide +kernel), ⟨8, rfl, RX9, TX9, 9, rfl, rfl⟩, by decide +kernel⟩
theorem zmlp_10_334 : zmlP 10 334 mX2_dueTick 0 3 1 := zmlP0 ⟨zmd_mX2_dueTick, .inr ⟨"StrangerHall", zmem 1068 (by decide +kernel)⟩, zmem 1070 (by decide +kernel), zsel (n := 5) 78 (by decide +kernel), ⟨2, rfl, RX2, TX2, 5, rfl, rfl⟩, by decide +kernel⟩
theorem zmlp_10_338 : zmlP 10 338 mX2_lapse 0 3 2 := zmlP0 ⟨zmd_mX2_lapse, .inr ⟨"StrangerHall", zmem 1081 (by decide +kernel)⟩, zmem 1083 (by decide +kernel), zsel (n := 5) 80 (by decide +kernel), ⟨2, rfl, RX2, TX2, 5, rfl, rfl⟩, by decide +kernel⟩
theorem zmlp_10_341 : zmlP 10 341 mX6_heldCoins 0 6 0 := zmlP0 ⟨zmd_mX6_heldCoins, .inr ⟨"StrangerHall", zmem 435 (by decide +kernel)⟩, zmem 437 (by decide +kernel), zsel (n := 14) 2 (by decide +kernel), ⟨5, rfl, RX6, TX6, 14, rfl, rfl⟩, by decide +kernel⟩
theorem zmlp_11_3 : zmlP 11 3 mX3_init 3 0 0 := zmlP3 (zmem 1215 (by decide +kernel))
theorem zmlp_11_163 : zmlP 11 163 mX11_byteAt 0 11 1 := zmlP0 ⟨zmd_mX11_byteAt, .inl (zmem 1434 (by decide +kernel)), zmem 1436 (by decide +kernel), zsel (n := 60) 96 (by decide +kernel), ⟨10, rfl, RX11, TX11, 60, rfl, rfl⟩, by decide +kernel⟩
theorem zmlp_11_170 : zmlP 11 170 mX11_blanks 0 11 0 := zmlP0 ⟨zmd_mX11_blanks, .inl (zmem 1430 (by decide +kernel)), zmem 1432 (by decide +kernel), zsel (n := 60) 95 (by decide +kernel), ⟨10, rfl, RX11, TX11, 60, rfl, rfl⟩, by decide +kernel⟩
theorem zmlp_11_173 : zmlP 11 173 mJ0_length_8abf5 20 0 0 := zmlPx (by decide)
theorem zmlp_11_179 : zmlP 11 179 mJ0_charAt_5068e 21 0 1 := zmlPx (by decide)
theorem zmlp_11_183 : zmlP 11 183 mX11_isSmall 1 11 1 := zmlP1 ⟨zmd_mX11_isSmall, .inl (zmem 1438 (by decide +kernel)), zmem 1439 (by decide +kernel), by decide +kernel⟩
theorem zmlp_11_187 : zmlP 11 187 mX11_isWord 0 11 1 := zmlP0 ⟨zmd_mX11_isWord, .inl (zmem 1442 (by decide +kernel)), zmem 1444 (by decide +kernel), zsel (n := 60) 97 (by decide +kernel), ⟨10, rfl, RX11, TX11, 60, rfl, rfl⟩, by decide +kernel⟩
theorem zmlp_11_191 : zmlP 11 191 mX11_wrong 0 11 2 := zmlP0 ⟨zmd_mX11_wrong, .inl (zmem 1459 (by decide +kernel)), zmem 1461 (by decide +kernel), zsel (n := 60) 100 (by decide +kernel), ⟨10, rfl, RX11, TX11, 60, rfl, rfl⟩, by decide +kernel⟩
theorem zmlp_11_198 : zmlP 11 198 mX11_sign 0 11 1 := zmlP0 ⟨zmd_mX11_sign, .inl (zmem 1455 (by decide +kernel)), zmem 1457 (by decide +kernel), zsel (n := 60) 99 (by decide +kernel), ⟨10, rfl, RX11, TX11, 60, rfl, rfl⟩, by decide +kernel⟩
theorem zmlp_11_208 : zmlP 11 208 mX11_adds 0 11 0 := zmlP0 ⟨zmd_mX11_adds, .inl (zmem 1471 (by decide +kernel)), zmem 1473 (by decide +kernel), zsel (n := 60) 103 (by decide +kernel), ⟨10, rfl, RX11, TX11, 60, rfl, rfl⟩, by decide +kernel⟩
theorem zmlp_11_211 : zmlP 11 211 mX11_emits 0 11 2 := zmlP0 ⟨zmd_mX11_emits, .inl (zmem 1491 (by decide +kernel)), zmem 1493 (by decide +kernel), zsel (n := 60) 107 (by decide +kernel), ⟨10, rfl, RX11, TX11, 60, rfl, rfl⟩, by decide +kernel⟩
theorem zmlp_11_215 : zmlP 11 215 mX11_product 0 11 0 := zmlP0 ⟨zmd_mX11_product, .inl (zmem 1475 (by decide +kernel)), zmem 1477 (by decide +kernel), zsel (n := 60) 104 (by decide +kernel), ⟨10, rfl, RX11, TX11, 60, rfl, rfl⟩, by decide +kernel⟩
theorem zmlp_11_218 : zmlP 11 218 mX11_unit 0 11 0 := zmlP0 ⟨zmd_mX11_unit, .inl (zmem 1479 (by decide +kernel)), zmem 1481 (by decide +kernel), zsel (n := 60) 105 (by decide +kernel), ⟨10, rfl, RX11, TX11, 60, rfl, rfl⟩, by decide +kernel⟩
theorem zmlp_11_221 : zmlP 11 221 mX11_isDigit 1 11 1 := zmlP1 ⟨zmd_mX11_isDigit, .inl (zmem 1483 (by decide +kernel)), zmem 1484 (by decide +kernel), by decide +kernel⟩
theorem zmlp_11_226 : zmlP 11 226 mX11_figures 0 11 0 := zmlP0 ⟨zmd_mX11_figures, .inl (zmem 1486 (by decide +kernel)), zmem 1488 (by decide +kernel), zsel (n := 60) 106 (by decide +kernel), ⟨10, rfl, RX11, TX11, 60, rfl, rfl⟩, by decide +kernel⟩
theorem zmlp_11_229 : zmlP 11 229 mX11_variable 0 11 0 := zmlP0 ⟨zmd_mX11_variable, .inl (zmem 1426 (by decide +kernel)), zmem 1428 (by decide +kernel), zsel (n := 60) 94 (by decide +kernel), ⟨10, rfl, RX11, TX11, 60, rfl, rfl⟩, by decide +kernel⟩
theorem zmlp_11_234 : zmlP 11 234 mX11_eat 0 11 1 := zmlP0 ⟨zmd_mX11_eat, .inl (zmem 1495 (by decide +kernel)), zmem 1497 (by decide +kernel), zsel (n := 60) 108 (by decide +kernel), ⟨10, rfl, RX11, TX11, 60, rfl, rfl⟩, by decide +kernel⟩
theorem zmlp_11_237 : zmlP 11 237 mX11_opens 0 11 1 := zmlP0 ⟨zmd_mX11_opens, .inl (zmem 1499 (by decide +kernel)), zmem 1501 (by decide +kernel), zsel (n := 60) 109 (by decide +kernel), ⟨10, rfl, RX11, TX11, 60, rfl, rfl⟩, by decide +kernel⟩
theorem zmlp_11_240 : zmlP 11 240 mX11_expression 0 11 0 := zmlP0 ⟨zmd_mX11_expression, .inl (zmem 1467 (by decide +kernel)), zmem 1469 (by decide +kernel), zsel (n := 60) 102 (by decide +kernel), ⟨10, rfl, RX11, TX11, 60, rfl, rfl⟩, by decide +kernel⟩
theorem zmlp_11_243 : zmlP 11 243 mX11_closes 0 11 1 := zmlP0 ⟨zmd_mX11_closes, .inl (zmem 1503 (by decide +kernel)), zmem 1505 (by decide +kernel), zsel (n := 60) 110 (by decide +kernel), ⟨10, rfl, RX11, TX11, 60, rfl, rfl⟩, by decide +kernel⟩
theorem zmlp_11_252 : zmlP 11 252 mX11_statements 0 11 0 := zmlP0 ⟨zmd_mX11_statements, .inl (zmem 1418 (by decide +kernel)), zmem 1420 (by decide +kernel), zsel (n := 60) 92 (by decide +kernel), ⟨10, rfl, RX11, TX11, 60, rfl, rfl⟩, by decide +kernel⟩
theorem zmlp_11_255 : zmlP 11 255 mX11_isStatement 0 11 0 := zmlP0 ⟨zmd_mX11_isStatement, .inl (zmem 1422 (by decide +kernel)), zmem 1424 (by decide +kernel), zsel (n := 60) 93 (by decide +kernel), ⟨10, rfl, RX11, TX11, 60, rfl, rfl⟩, by decide +kernel⟩
theorem zmlp_11_259 : zmlP 11 259 mX11_statement 0 11 0 := zmlP0 ⟨zmd_mX11_statement, .inl (zmem 1451 (by decide +kernel)), zmem 1453 (by decide +kernel), zsel (n := 60) 98 (by decide +kernel), ⟨10, rfl, RX11, TX11, 60, rfl, rfl⟩, by decide +kernel⟩
theorem zmlp_11_262 : zmlP 11 262 mX11_ended 0 11 2 := zmlP0 ⟨zmd_mX11_ended, .inl (zmem 1463 (by decide +kernel)), zmem 1465 (by decide +kernel), zsel (n := 60) 101 (by decide +kernel), ⟨10, rfl, RX11, TX11, 60, rfl, rfl⟩, by decide +kernel⟩
theorem zmlp_11_265 : zmlP 11 265 mX11_braced 0 11 0 := zmlP0 ⟨zmd_mX11_braced, .inl (zmem 1507 (by decide +kernel)), zmem 1509 (by decide +kernel), zsel (n := 60) 111 (by decide +kernel), ⟨10, rfl, RX11, TX11, 60, rfl, rfl⟩, by decide +kernel⟩
theorem zmlp_11_268 : zmlP 11 268 mX11_leads 0 11 2 := zmlP0 ⟨zmd_mX11_leads, .inl (zmem 1511 (by decide +kernel)), zmem 1513 (by decide +kernel), zsel (n := 60) 112 (by decide +kernel), ⟨10, rfl, RX11, TX11, 60, rfl, rfl⟩, by decide +kernel⟩
theorem zmlp_11_271 : zmlP 11 271 mX11_branch 0 11 0 := zmlP0 ⟨zmd_mX11_branch, .inl (zmem 1515 (by decide +kernel)), zmem 1517 (by decide +kernel), zsel (n := 60) 113 (by decide +kernel), ⟨10, rfl, RX11, TX11, 60, rfl, rfl⟩, by decide +kernel⟩
theorem zmlp_11_276 : zmlP 11 276 mX11_in 1 11 3 := zmlP1 ⟨zmd_mX11_in, .inl (zmem 1411 (by decide +kernel)), zmem 1412 (by decide +kernel), by decide +kernel⟩
theorem zmlp_11_280 : zmlP 11 280 mX11_bad 0 11 2 := zmlP0 ⟨zmd_mX11_bad, .inl (zmem 1414 (by decide +kernel)), zmem 1416 (by decide +kernel), zsel (n := 60) 91 (by decide +kernel), ⟨10, rfl, RX11, TX11, 60, rfl, rfl⟩, by decide +kernel⟩
theorem zmlp_11_284 : zmlP 11 284 mX11_isTask 0 11 1 := zmlP0 ⟨zmd_mX11_isTask, .inl (zmem 1528 (by decide +kernel)), zmem 1530 (by decide +kernel), zsel (n := 60) 114 (by decide +kernel), ⟨10, rfl, RX11, TX11, 60, rfl, rfl⟩, by decide +kernel⟩
theorem zmlp_11_287 : zmlP 11 287 mX11_partOf 0 11 4 := zmlP0 ⟨zmd_mX11_partOf, .inl (zmem 1552 (by decide +kernel)), zmem 1554 (by decide +kernel), zsel (n := 60) 118 (by decide +kernel), ⟨10, rfl, RX11, TX11, 60, rfl, rfl⟩, by decide +kernel⟩
theorem zmlp_11_291 : zmlP 11 291 mX11_takes 0 11 0 := zmlP0 ⟨zmd_mX11_takes, .inl (zmem 1560 (by decide +kernel)), zmem 1562 (by decide +kernel), zsel (n := 60) 120 (by decide +kernel), ⟨10, rfl, RX11, TX11, 60, rfl, rfl⟩, by decide +kernel⟩
theorem zmlp_11_294 : zmlP 11 294 mX11_worked 1 11 3 := zmlP1 ⟨zmd_mX11_worked, .inl (zmem 1564 (by decide +kernel)), zmem 1565 (by decide +kernel), by decide +kernel⟩
theorem zmlp_11_298 : zmlP 11 298 mX11_lays 0 11 1 := zmlP0 ⟨zmd_mX11_lays, .inl (zmem 1567 (by decide +kernel)), zmem 1569 (by decide +kernel), zsel (n := 60) 121 (by decide +kernel), ⟨10, rfl, RX11, TX11, 60, rfl, rfl⟩, by decide +kernel⟩
theorem zmlp_11_301 : zmlP 11 301 mX11_begins 0 11 3 := zmlP0 ⟨zmd_mX11_begins, .inl (zmem 1548 (by decide +kernel)), zmem 1550 (by decide +kernel), zsel (n := 60) 117 (by decide +kernel), ⟨10, rfl, RX11, TX11, 60, rfl, rfl⟩, by decide +kernel⟩
theorem zmlp_11_305 : zmlP 11 305 mX11_goes 0 11 1 := zmlP0 ⟨zmd_mX11_goes, .inl (zmem 1556 (by decide +kernel)), zmem 1558 (by decide +kernel), zsel (n := 60) 119 (by decide +kernel), ⟨10, rfl, RX11, TX11, 60, rfl, rfl⟩, by decide +kernel⟩
theorem zmlp_11_308 : zmlP 11 308 mX11_runs 0 11 4 := zmlP0 ⟨zmd_mX11_runs, .inl (zmem 1544 (by decide +kernel)), zmem 1546 (by decide +kernel), zsel (n := 60) 116 (by decide +kernel), ⟨10, rfl, RX11, TX11, 60, rfl, rfl⟩, by decide +kernel⟩
theorem zmlp_11_311 : zmlP 11 311 mX11_lengthOf 0 11 1 := zmlP0 ⟨zmd_mX11_lengthOf, .inl (zmem 1540 (by decide +kernel)), zmem 1542 (by decide +kernel), zsel (n := 60) 115 (by decide +kernel), ⟨10, rfl, RX11, TX11, 60, rfl, rfl⟩, by decide +kernel⟩
theorem zmlp_11_315 : zmlP 11 315 mX11_pageSum 0 11 1 := zmlP0 ⟨zmd_mX11_pageSum, .inl (zmem 1587 (by decide +kernel)), zmem 1589 (by decide +kernel), zsel (n := 60) 124 (by decide +kernel), ⟨10, rfl, RX11, TX11, 60, rfl, rfl⟩, by decide +kernel⟩
theorem zmlp_11_318 : zmlP 11 318 mX11_joined 1 11 2 := zmlP1 ⟨zmd_mX11_joined, .inl (zmem 1591 (by decide +kernel)), zmem 1592 (by decide +kernel), by decide +kernel⟩
theorem zmlp_11_321 : zmlP 11 321 mX11_sums 0 11 2 := zmlP0 ⟨zmd_mX11_sums, .inl (zmem 1583 (by decide +kernel)), zmem 1585 (by decide +kernel), zsel (n := 60) 123 (by decide +kernel), ⟨10, rfl, RX11, TX11, 60, rfl, rfl⟩, by decide +kernel⟩
theorem zmlp_11_324 : zmlP 11 324 mX11_sumOf 0 11 2 := zmlP0 ⟨zmd_mX11_sumOf, .inl (zmem 1579 (by decide +kernel)), zmem 1581 (by decide +kernel), zsel (n := 60) 122 (by decide +kernel), ⟨10, rfl, RX11, TX11, 60, rfl, rfl⟩, by decide +kernel⟩
theorem zmlp_11_327 : zmlP 11 327 mX11_firstOf 0 11 1 := zmlP0 ⟨zmd_mX11_firstOf, .inl (zmem 1647 (by decide +kernel)), zmem 1649 (by decide +kernel), zsel (n := 60) 128 (by decide +kernel), ⟨10, rfl, RX11, TX11, 60, rfl, rfl⟩, by decide +kernel⟩
theorem zmlp_11_333 : zmlP 11 333 mX11_isHouse 0 11 1 := zmlP0 ⟨zmd_mX11_isHouse, .inl (zmem 1619 (by decide +kernel)), zmem 1621 (by decide +kernel), zsel (n := 60) 125 (by decide +kernel), ⟨10, rfl, RX11, TX11, 60, rfl, rfl⟩, by decide +kernel⟩
theorem zmlp_11_336 : zmlP 11 336 mX11_isPiece 0 11 2 := zmlP0 ⟨zmd_mX11_isPiece, .inl (zmem 1631 (by decide +kernel)), zmem 1633 (by decide +kernel), zsel (n := 60) 126 (by decide +kernel), ⟨10, rfl, RX11, TX11, 60, rfl, rfl⟩, by decide +kernel⟩
theorem zmlp_11_343 : zmlP 11 343 mX11_dropBid 0 11 2 := zmlP0 ⟨zmd_mX11_dropBid, .inl (zmem 1635 (by decide +kernel)), zmem 1637 (by decide +kernel), zsel (n := 60) 127 (by decide +kernel), ⟨10, rfl, RX11, TX11, 60, rfl, rfl⟩, by decide +kernel⟩
theorem zmlp_11_346 : zmlP 11 346 mX11_lastOf 0 11 1 := zmlP0 ⟨zmd_mX11_lastOf, .inl (zmem 1651 (by decide +kernel)), zmem 1653 (by decide +kernel), zsel (n := 60) 129 (by decide +kernel), ⟨10, rfl, RX11, TX11, 60, rfl, rfl⟩, by decide +kernel⟩
theorem zmlp_11_349 : zmlP 11 349 mX11_asks 0 11 1 := zmlP0 ⟨zmd_mX11_asks, .inl (zmem 1655 (by decide +kernel)), zmem 1657 (by decide +kernel), zsel (n := 60) 130 (by decide +kernel), ⟨10, rfl, RX11, TX11, 60, rfl, rfl⟩, by decide +kernel⟩
theorem zmlp_11_352 : zmlP 11 352 mX11_judges 0 11 1 := zmlP0 ⟨zmd_mX11_judges, .inl (zmem 1659 (by decide +kernel)), zmem 1661 (by decide +kernel), zsel (n := 60) 131 (by decide +kernel), ⟨10, rfl, RX11, TX11, 60, rfl, rfl⟩, by decide +kernel⟩
theorem zmlp_11_355 : zmlP 11 355 mX11_over 0 11 3 := zmlP0 ⟨zmd_mX11_over, .inl (zmem 1663 (by decide +kernel)), zmem 1665 (by decide +kernel), zsel (n := 60) 132 (by decide +kernel), ⟨10, rfl, RX11, TX11, 60, rfl, rfl⟩, by decide +kernel⟩
theorem zmlp_11_362 : zmlP 11 362 mX11_voided 0 11 1 := zmlP0 ⟨zmd_mX11_voided, .inl (zmem 1667 (by decide +kernel)), zmem 1669 (by decide +kernel), zsel (n := 60) 133 (by decide +kernel), ⟨10, rfl, RX11, TX11, 60, rfl, rfl⟩, by decide +kernel⟩
theorem zmlp_11_365 : zmlP 11 365 mX11_stays 0 11 1 := zmlP0 ⟨zmd_mX11_stays, .inl (zmem 1675 (by decide +kernel)), zmem 1677 (by decide +kernel), zsel (n := 60) 135 (by decide +kernel), ⟨10, rfl, RX11, TX11, 60, rfl, rfl⟩, by decide +kernel⟩
theorem zmlp_11_368 : zmlP 11 368 mX11_frees 0 11 1 := zmlP0 ⟨zmd_mX11_frees, .inl (zmem 1671 (by decide +kernel)), zmem 1673 (by decide +kernel), zsel (n := 60) 134 (by decide +kernel), ⟨10, rfl, RX11, TX11, 60, rfl, rfl⟩, by decide +kernel⟩
theorem zmlp_11_372 : zmlP 11 372 mX11_passes 0 11 1 := zmlP0 ⟨zmd_mX11_passes, .inl (zmem 1692 (by decide +kernel)), zmem 1694 (by decide +kernel), zsel (n := 60) 136 (by decide +kernel), ⟨10, rfl, RX11, TX11, 60, rfl, rfl⟩, by decide +kernel⟩
theorem zmlp_11_380 : zmlP 11 380 mX11_costOf 0 11 2 := zmlP0 ⟨zmd_mX11_costOf, .inl (zmem 1708 (by decide +kernel)), zmem 1710 (by decide +kernel), zsel (n := 60) 137 (by decide +kernel), ⟨10, rfl, RX11, TX11, 60, rfl, rfl⟩, by decide +kernel⟩
theorem zmlp_11_390 : zmlP 11 390 mX11_chooses 0 11 5 := zmlP0 ⟨zmd_mX11_chooses, .inl (zmem 1718 (by decide +kernel)), zmem 1720 (by decide +kernel), zsel (n := 60) 138 (by decide +kernel), ⟨10, rfl, RX11, TX11, 60, rfl, rfl⟩, by decide +kernel⟩
theorem zmlp_11_399 : zmlP 11 399 mX11_byteOf 0 11 2 := zmlP0 ⟨zmd_mX11_byteOf, .inl (zmem 1731 (by decide +kernel)), zmem 1733 (by decide +kernel), zsel (n := 60) 140 (by decide +kernel), ⟨10, rfl, RX11, TX11, 60, rfl, rfl⟩, by decide +kernel⟩
theorem zmlp_11_402 : zmlP 11 402 mX11_next 0 11 1 := zmlP0 ⟨zmd_mX11_next, .inl (zmem 1727 (by decide +kernel)), zmem 1729 (by decide +kernel), zsel (n := 60) 139 (by decide +kernel), ⟨10, rfl, RX11, TX11, 60, rfl, rfl⟩, by decide +kernel⟩
theorem zmlp_11_405 : zmlP 11 405 mX11_numbers 0 11 1 := zmlP0 ⟨zmd_mX11_numbers, .inl (zmem 1747 (by decide +kernel)), zmem 1749 (by decide +kernel), zsel (n := 60) 144 (by decide +kernel), ⟨10, rfl, RX11, TX11, 60, rfl, rfl⟩, by decide +kernel⟩
theorem zmlp_11_408 : zmlP 11 408 mX11_eats 0 11 2 := zmlP0 ⟨zmd_mX11_eats, .inl (zmem 1751 (by decide +kernel)), zmem 1753 (by decide +kernel), zsel (n := 60) 145 (by decide +kernel), ⟨10, rfl, RX11, TX11, 60, rfl, rfl⟩, by decide +kernel⟩
theorem zmlp_11_411 : zmlP 11 411 mX11_isOut 0 11 1 := zmlP0 ⟨zmd_mX11_isOut, .inl (zmem 1739 (by decide +kernel)), zmem 1741 (by decide +kernel), zsel (n := 60) 142 (by decide +kernel), ⟨10, rfl, RX11, TX11, 60, rfl, rfl⟩, by decide +kernel⟩
theorem zmlp_11_414 : zmlP 11 414 mX11_isPart 0 11 1 := zmlP0 ⟨zmd_mX11_isPart, .inl (zmem 1743 (by decide +kernel)), zmem 1745 (by decide +kernel), zsel (n := 60) 143 (by decide +kernel), ⟨10, rfl, RX11, TX11, 60, rfl, rfl⟩, by decide +kernel⟩
theorem zmlp_11_417 : zmlP 11 417 mX11_isLine 0 11 1 := zmlP0 ⟨zmd_mX11_isLine, .inl (zmem 1735 (by decide +kernel)), zmem 1737 (by decide +kernel), zsel (n := 60) 141 (by decide +kernel), ⟨10, rfl, RX11, TX11, 60, rfl, rfl⟩, by decide +kernel⟩
theorem zmlp_11_420 : zmlP 11 420 mX11_outOf 0 11 4 := zmlP0 ⟨zmd_mX11_outOf, .inl (zmem 1767 (by decide +kernel)), zmem 1769 (by decide +kernel), zsel (n := 60) 146 (by decide +kernel), ⟨10, rfl, RX11, TX11, 60, rfl, rfl⟩, by decide +kernel⟩
theorem zmlp_11_423 : zmlP 11 423 mX11_held 0 11 0 := zmlP0 ⟨zmd_mX11_held, .inl (zmem 1775 (by decide +kernel)), zmem 1777 (by decide +kernel), zsel (n := 60) 147 (by decide +kernel), ⟨10, rfl, RX11, TX11, 60, rfl, rfl⟩, by decide +kernel⟩
theorem zmlp_12_7 : zmlP 12 7 mX10_task 0 10 2 := zmlP0 ⟨zmd_mX10_task, .inl (zmem 447 (by decide +kernel)), zmem 448 (by decide +kernel), zmem 449 (by decide +kernel), ⟨9, rfl, RX10, TX10, 8, rfl, rfl⟩, by decide +kernel⟩
theorem zmlp_12_15 : zmlP 12 15 mX10_code 0 10 3 := zmlP0 ⟨zmd_mX10_code, .inl (zmem 722 (by decide +kernel)), zmem 723 (by decide +kernel), zmem 724 (by decide +kernel), ⟨9, rfl, RX10, TX10, 8, rfl, rfl⟩, by decide +kernel⟩
theorem zmlp_12_21 : zmlP 12 21 mX10_memory 0 10 3 := zmlP0 ⟨zmd_mX10_memory, .inl (zmem 752 (by decide +kernel)), zmem 753 (by decide +kernel), zmem 754 (by decide +kernel), ⟨9, rfl, RX10, TX10, 8, rfl, rfl⟩, by decide +kernel⟩
theorem zmlp_12_24 : zmlP 12 24 mX10_length 0 10 1 := zmlP0 ⟨zmd_mX10_length, .inl (zmem 763 (by decide +kernel)), zmem 764 (by decide +kernel), zmem 765 (by decide +kernel), ⟨9, rfl, RX10, TX10, 8, rfl, rfl⟩, by decide +kernel⟩
theorem zmlp_12_28 : zmlP 12 28 mX10_cell 0 10 3 := zmlP0 ⟨zmd_mX10_cell, .inl (zmem 810 (by decide +kernel)), zmem 811 (by decide +kernel), zmem 812 (by decide +kernel), ⟨9, rfl, RX10, TX10, 8, rfl, rfl⟩, by decide +kernel⟩
theorem zmlp_12_31 : zmlP 12 31 mX10_sum 0 10 2 := zmlP0 ⟨zmd_mX10_sum, .inl (zmem 818 (by decide +kernel)), zmem 819 (by decide +kernel), zmem 820 (by decide +kernel), ⟨9, rfl, RX10, TX10, 8, rfl, rfl⟩, by decide +kernel⟩
theorem zmlp_12_34 : zmlP 12 34 mX10_beside 0 10 4 := zmlP0 ⟨zmd_mX10_beside, .inl (zmem 834 (by decide +kernel)), zmem 835 (by decide +kernel), zmem 836 (by decide +kernel), ⟨9, rfl, RX10, TX10, 8, rfl, rfl⟩, by decide +kernel⟩
theorem zmlp_12_38 : zmlP 12 38 mX10_shown 0 10 4 := zmlP0 ⟨zmd_mX10_shown, .inl (zmem 845 (by decide +kernel)), zmem 846 (by decide +kernel), zmem 847 (by decide +kernel), ⟨9, rfl, RX10, TX10, 8, rfl, rfl⟩, by decide +kernel⟩
theorem zmlp_12_42 : zmlP 12 42 mX10_cut 0 10 2 := zmlP0 ⟨zmd_mX10_cut, .inl (zmem 857 (by decide +kernel)), zmem 858 (by decide +kernel), zmem 859 (by decide +kernel), ⟨9, rfl, RX10, TX10, 8, rfl, rfl⟩, by decide +kernel⟩
theorem zmlp_12_45 : zmlP 12 45 mX10_house 0 10 1 := zmlP0 ⟨zmd_mX10_house, .inl (zmem 868 (by decide +kernel)), zmem 869 (by decide +kernel), zmem 870 (by decide +kernel), ⟨9, rfl, RX10, TX10, 8, rfl, rfl⟩, by decide +kernel⟩
theorem zmlp_12_48 : zmlP 12 48 mX10_told 0 10 2 := zmlP0 ⟨zmd_mX10_told, .inl (zmem 875 (by decide +kernel)), zmem 876 (by decide +kernel), zmem 877 (by decide +kernel), ⟨9, rfl, RX10, TX10, 8, rfl, rfl⟩, by decide +kernel⟩
theorem zmlp_12_51 : zmlP 12 51 mX10_rule 0 10 2 := zmlP0 ⟨zmd_mX10_rule, .inl (zmem 886 (by decide +kernel)), zmem 887 (by decide +kernel), zmem 888 (by decide +kernel), ⟨9, rfl, RX10, TX10, 8, rfl, rfl⟩, by decide +kernel⟩
theorem zmlp_12_54 : zmlP 12 54 mX10_give 0 10 6 := zmlP0 ⟨zmd_mX10_give, .inl (zmem 893 (by decide +kernel)), zmem 894 (by decide +kernel), zmem 895 (by decide +kernel), ⟨9, rfl, RX10, TX10, 8, rfl, rfl⟩, by decide +kernel⟩
theorem zmlp_12_58 : zmlP 12 58 mX10_claim 0 10 3 := zmlP0 ⟨zmd_mX10_claim, .inl (zmem 916 (by decide +kernel)), zmem 917 (by decide +kernel), zmem 918 (by decide +kernel), ⟨9, rfl, RX10, TX10, 8, rfl, rfl⟩, by decide +kernel⟩
theorem zmlp_12_61 : zmlP 12 61 mX10_doubt 0 10 4 := zmlP0 ⟨zmd_mX10_doubt, .inl (zmem 923 (by decide +kernel)), zmem 924 (by decide +kernel), zmem 925 (by decide +kernel), ⟨9, rfl, RX10, TX10, 8, rfl, rfl⟩, by decide +kernel⟩
theorem zmlp_12_64 : zmlP 12 64 mX10_piece 0 10 3 := zmlP0 ⟨zmd_mX10_piece, .inl (zmem 1009 (by decide +kernel)), zmem 1010 (by decide +kernel), zmem 1011 (by decide +kernel), ⟨9, rfl, RX10, TX10, 8, rfl, rfl⟩, by decide +kernel⟩
theorem zmlp_12_67 : zmlP 12 67 mX10_answer 0 10 4 := zmlP0 ⟨zmd_mX10_answer, .inl (zmem 1020 (by decide +kernel)), zmem 1021 (by decide +kernel), zmem 1022 (by decide +kernel), ⟨9, rfl, RX10, TX10, 8, rfl, rfl⟩, by decide +kernel⟩
theorem zmlp_12_71 : zmlP 12 71 mX10_tick 0 10 1 := zmlP0 ⟨zmd_mX10_tick, .inl (zmem 1043 (by decide +kernel)), zmem 1044 (by decide +kernel), zmem 1045 (by decide +kernel), ⟨9, rfl, RX10, TX10, 8, rfl, rfl⟩, by decide +kernel⟩
theorem zmlp_12_76 : zmlP 12 76 mX10_trial 0 10 4 := zmlP0 ⟨zmd_mX10_trial, .inl (zmem 1088 (by decide +kernel)), zmem 1089 (by decide +kernel), zmem 1090 (by decide +kernel), ⟨9, rfl, RX10, TX10, 8, rfl, rfl⟩, by decide +kernel⟩
theorem zmlp_12_79 : zmlP 12 79 mX10_bid 0 10 6 := zmlP0 ⟨zmd_mX10_bid, .inl (zmem 1095 (by decide +kernel)), zmem 1096 (by decide +kernel), zmem 1097 (by decide +kernel), ⟨9, rfl, RX10, TX10, 8, rfl, rfl⟩, by decide +kernel⟩
theorem zmlp_12_82 : zmlP 12 82 mX10_cost 0 10 3 := zmlP0 ⟨zmd_mX10_cost, .inl (zmem 1111 (by decide +kernel)), zmem 1112 (by decide +kernel), zmem 1113 (by decide +kernel), ⟨9, rfl, RX10, TX10, 8, rfl, rfl⟩, by decide +kernel⟩
theorem zmlp_12_86 : zmlP 12 86 mX10_chosen 0 10 4 := zmlP0 ⟨zmd_mX10_chosen, .inl (zmem 1129 (by decide +kernel)), zmem 1130 (by decide +kernel), zmem 1131 (by decide +kernel), ⟨9, rfl, RX10, TX10, 8, rfl, rfl⟩, by decide +kernel⟩
theorem zmlp_12_90 : zmlP 12 90 mX10_linear 0 10 1 := zmlP0 ⟨zmd_mX10_linear, .inl (zmem 1163 (by decide +kernel)), zmem 1164 (by decide +kernel), zmem 1165 (by decide +kernel), ⟨9, rfl, RX10, TX10, 8, rfl, rfl⟩, by decide +kernel⟩
theorem zmlp_12_93 : zmlP 12 93 mX10_lot 0 10 4 := zmlP0 ⟨zmd_mX10_lot, .inl (zmem 1170 (by decide +kernel)), zmem 1171 (by decide +kernel), zmem 1172 (by decide +kernel), ⟨9, rfl, RX10, TX10, 8, rfl, rfl⟩, by decide +kernel⟩
theorem zmlp_12_96 : zmlP 12 96 mX10_part 0 10 4 := zmlP0 ⟨zmd_mX10_part, .inl (zmem 1177 (by decide +kernel)), zmem 1178 (by decide +kernel), zmem 1179 (by decide +kernel), ⟨9, rfl, RX10, TX10, 8, rfl, rfl⟩, by decide +kernel⟩
theorem zmlp_12_99 : zmlP 12 99 mX10_out 0 10 3 := zmlP0 ⟨zmd_mX10_out, .inl (zmem 1188 (by decide +kernel)), zmem 1189 (by decide +kernel), zmem 1190 (by decide +kernel), ⟨9, rfl, RX10, TX10, 8, rfl, rfl⟩, by decide +kernel⟩
theorem zmlp_12_102 : zmlP 12 102 mX10_purse 0 10 1 := zmlP0 ⟨zmd_mX10_purse, .inl (zmem 1206 (by decide +kernel)), zmem 1207 (by decide +kernel), zmem 1208 (by decide +kernel), ⟨9, rfl, RX10, TX10, 8, rfl, rfl⟩, by decide +kernel⟩
theorem zmlp_12_105 : zmlP 12 105 mX10_init 2 10 0 := zmlP2 ⟨zmd_mX10_init, .inl (zmem 27 (by decide +kernel)), zmem 28 (by decide +kernel), rfl, rfl, by decide +kernel⟩
theorem zmlp_12_108 : zmlP 12 108 mX11_init 2 11 0 := zmlP2 ⟨zmd_mX11_init, .inl (zmem 1212 (by decide +kernel)), zmem 1213 (by decide +kernel), rfl, rfl, by decide +kernel⟩
theorem zmlp_12_109 : zmlP 12 109 mX10_feed 0 10 5 := zmlP0 ⟨zmd_mX10_feed, .inl (zmem 407 (by decide +kernel)), zmem 408 (by decide +kernel), zmem 409 (by decide +kernel), ⟨9, rfl, RX10, TX10, 8, rfl, rfl⟩, by decide +kernel⟩
theorem zmlp_12_113 : zmlP 12 113 mX11_feed 0 11 5 := zmlP0 ⟨zmd_mX11_feed, .inl (zmem 1402 (by decide +kernel)), zmem 1403 (by decide +kernel), zmem 1404 (by decide +kernel), ⟨10, rfl, RX11, TX11, 60, rfl, rfl⟩, by decide +kernel⟩
theorem zmlp_12_114 : zmlP 12 114 mL_task 5 0 4 := zmlPx (by decide)
theorem zmlp_12_119 : zmlP 12 119 mX11_task 0 11 2 := zmlP0 ⟨zmd_mX11_task, .inl (zmem 1406 (by decide +kernel)), zmem 1407 (by decide +kernel), zmem 1408 (by decide +kernel), ⟨10, rfl, RX11, TX11, 60, rfl, rfl⟩, by decide +kernel⟩
theorem zmlp_12_120 : zmlP 12 120 mX11_thrown 0 11 0 := zmlP0 ⟨zmd_mX11_thrown, .inl (zmem 1398 (by decide +kernel)), zmem 1399 (by decide +kernel), zmem 1400 (by decide +kernel), ⟨10, rfl, RX11, TX11, 60, rfl, rfl⟩, by decide +kernel⟩
theorem zmlp_12_124 : zmlP 12 124 mX10_fault 0 10 0 := zmlP0 ⟨zmd_mX10_fault, .inl (zmem 415 (by decide +kernel)), zmem 416 (by decide +kernel), zmem 417 (by decide +kernel), ⟨9, rfl, RX10, TX10, 8, rfl, rfl⟩, by decide +kernel⟩
theorem zmlp_12_127 : zmlP 12 127 mX11_fault 0 11 0 := zmlP0 ⟨zmd_mX11_fault, .inl (zmem 1520 (by decide +kernel)), zmem 1521 (by decide +kernel), zmem 1522 (by decide +kernel), ⟨10, rfl, RX11, TX11, 60, rfl, rfl⟩, by decide +kernel⟩
theorem zmlp_12_128 : zmlP 12 128 mL_code 5 0 5 := zmlPx (by decide)
theorem zmlp_12_131 : zmlP 12 131 mX11_code 0 11 3 := zmlP0 ⟨zmd_mX11_code, .inl (zmem 1524 (by decide +kernel)), zmem 1525 (by decide +kernel), zmem 1526 (by decide +kernel), ⟨10, rfl, RX11, TX11, 60, rfl, rfl⟩, by decide +kernel⟩
theorem zmlp_12_132 : zmlP 12 132 mL_memory 5 0 5 := zmlPx (by decide)
theorem zmlp_12_134 : zmlP 12 134 mX11_memory 0 11 3 := zmlP0 ⟨zmd_mX11_memory, .inl (zmem 1532 (by decide +kernel)), zmem 1533 (by decide +kernel), zmem 1534 (by decide +kernel), ⟨10, rfl, RX11, TX11, 60, rfl, rfl⟩, by decide +kernel⟩
theorem zmlp_12_135 : zmlP 12 135 mL_length 5 0 3 := zmlPx (by decide)
theorem zmlp_12_138 : zmlP 12 138 mX11_length 0 11 1 := zmlP0 ⟨zmd_mX11_length, .inl (zmem 1536 (by decide +kernel)), zmem 1537 (by decide +kernel), zmem 1538 (by decide +kernel), ⟨10, rfl, RX11, TX11, 60, rfl, rfl⟩, by decide +kernel⟩
theorem zmlp_12_139 : zmlP 12 139 mL_cell 5 0 5 := zmlPx (by decide)
theorem zmlp_12_141 : zmlP 12 141 mX11_cell 0 11 3 := zmlP0 ⟨zmd_mX11_cell, .inl (zmem 1571 (by decide +kernel)), zmem 1572 (by decide +kernel), zmem 1573 (by decide +kernel), ⟨10, rfl, RX11, TX11, 60, rfl, rfl⟩, by decide +kernel⟩
theorem zmlp_12_142 : zmlP 12 142 mL_sum 5 0 4 := zmlPx (by decide)
theorem zmlp_12_144 : zmlP 12 144 mX11_sum 0 11 2 := zmlP0 ⟨zmd_mX11_sum, .inl (zmem 1575 (by decide +kernel)), zmem 1576 (by decide +kernel), zmem 1577 (by decide +kernel), ⟨10, rfl, RX11, TX11, 60, rfl, rfl⟩, by decide +kernel⟩
theorem zmlp_12_145 : zmlP 12 145 mL_beside 5 0 6 := zmlPx (by decide)
theorem zmlp_12_148 : zmlP 12 148 mX11_beside 0 11 4 := zmlP0 ⟨zmd_mX11_beside, .inl (zmem 1595 (by decide +kernel)), zmem 1596 (by decide +kernel), zmem 1597 (by decide +kernel), ⟨10, rfl, RX11, TX11, 60, rfl, rfl⟩, by decide +kernel⟩
theorem zmlp_12_149 : zmlP 12 149 mX10_both 0 10 2 := zmlP0 ⟨zmd_mX10_both, .inl (zmem 419 (by decide +kernel)), zmem 420 (by decide +kernel), zmem 421 (by decide +kernel), ⟨9, rfl, RX10, TX10, 8, rfl, rfl⟩, by decide +kernel⟩
theorem zmlp_12_152 : zmlP 12 152 mX11_both 0 11 2 := zmlP0 ⟨zmd_mX11_both, .inl (zmem 1599 (by decide +kernel)), zmem 1600 (by decide +kernel), zmem 1601 (by decide +kernel), ⟨10, rfl, RX11, TX11, 60, rfl, rfl⟩, by decide +kernel⟩
theorem zmlp_12_153 : zmlP 12 153 mL_shown 5 0 6 := zmlPx (by decide)
theorem zmlp_12_155 : zmlP 12 155 mX11_shown 0 11 4 := zmlP0 ⟨zmd_mX11_shown, .inl (zmem 1603 (by decide +kernel)), zmem 1604 (by decide +kernel), zmem 1605 (by decide +kernel), ⟨10, rfl, RX11, TX11, 60, rfl, rfl⟩, by decide +kernel⟩
theorem zmlp_12_156 : zmlP 12 156 mL_cut 5 0 4 := zmlPx (by decide)
theorem zmlp_12_158 : zmlP 12 158 mX11_cut 0 11 2 := zmlP0 ⟨zmd_mX11_cut, .inl (zmem 1607 (by decide +kernel)), zmem 1608 (by decide +kernel), zmem 1609 (by decide +kernel), ⟨10, rfl, RX11, TX11, 60, rfl, rfl⟩, by decide +kernel⟩
theorem zmlp_12_159 : zmlP 12 159 mL_house 5 0 3 := zmlPx (by decide)
theorem zmlp_12_161 : zmlP 12 161 mX11_house 0 11 1 := zmlP0 ⟨zmd_mX11_house, .inl (zmem 1611 (by decide +kernel)), zmem 1612 (by decide +kernel), zmem 1613 (by decide +kernel), ⟨10, rfl, RX11, TX11, 60, rfl, rfl⟩, by decide +kernel⟩
theorem zmlp_12_162 : zmlP 12 162 mL_told 5 0 4 := zmlPx (by decide)
theorem zmlp_12_164 : zmlP 12 164 mX11_told 0 11 2 := zmlP0 ⟨zmd_mX11_told, .inl (zmem 1615 (by decide +kernel)), zmem 1616 (by decide +kernel), zmem 1617 (by decide +kernel), ⟨10, rfl, RX11, TX11, 60, rfl, rfl⟩, by decide +kernel⟩
theorem zmlp_12_165 : zmlP 12 165 mL_rule 5 0 4 := zmlPx (by decide)
theorem zmlp_12_167 : zmlP 12 167 mX11_rule 0 11 2 := zmlP0 ⟨zmd_mX11_rule, .inl (zmem 1623 (by decide +kernel)), zmem 1624 (by decide +kernel), zmem 1625 (by decide +kernel), ⟨10, rfl, RX11, TX11, 60, rfl, rfl⟩, by decide +kernel⟩
theorem zmlp_12_168 : zmlP 12 168 mL_give 5 0 8 := zmlPx (by decide)
theorem zmlp_12_171 : zmlP 12 171 mX11_give 0 11 6 := zmlP0 ⟨zmd_mX11_give, .inl (zmem 1627 (by decide +kernel)), zmem 1628 (by decide +kernel), zmem 1629 (by decide +kernel), ⟨10, rfl, RX11, TX11, 60, rfl, rfl⟩, by decide +kernel⟩
theorem zmlp_12_172 : zmlP 12 172 mL_claim 5 0 5 := zmlPx (by decide)
theorem zmlp_12_174 : zmlP 12 174 mX11_claim 0 11 3 := zmlP0 ⟨zmd_mX11_claim, .inl (zmem 1639 (by decide +kernel)), zmem 1640 (by decide +kernel), zmem 1641 (by decide +kernel), ⟨10, rfl, RX11, TX11, 60, rfl, rfl⟩, by decide +kernel⟩
theorem zmlp_12_175 : zmlP 12 175 mL_doubt 5 0 6 := zmlPx (by decide)
theorem zmlp_12_177 : zmlP 12 177 mX11_doubt 0 11 4 := zmlP0 ⟨zmd_mX11_doubt, .inl (zmem 1643 (by decide +kernel)), zmem 1644 (by decide +kernel), zmem 1645 (by decide +kernel), ⟨10, rfl, RX11, TX11, 60, rfl, rfl⟩, by decide +kernel⟩
theorem zmlp_12_178 : zmlP 12 178 mL_piece 5 0 5 := zmlPx (by decide)
theorem zmlp_12_180 : zmlP 12 180 mX11_piece 0 11 3 := zmlP0 ⟨zmd_mX11_piece, .inl (zmem 1683 (by decide +kernel)), zmem 1684 (by decide +kernel), zmem 1685 (by decide +kernel), ⟨10, rfl, RX11, TX11, 60, rfl, rfl⟩, by decide +kernel⟩
theorem zmlp_12_181 : zmlP 12 181 mL_answer 5 0 6 := zmlPx (by decide)
theorem zmlp_12_184 : zmlP 12 184 mX11_answer 0 11 4 := zmlP0 ⟨zmd_mX11_answer, .inl (zmem 1679 (by decide +kernel)), zmem 1680 (by decide +kernel), zmem 1681 (by decide +kernel), ⟨10, rfl, RX11, TX11, 60, rfl, rfl⟩, by decide +kernel⟩
theorem zmlp_12_185 : zmlP 12 185 mL_tick 5 0 3 := zmlPx (by decide)
theorem zmlp_12_187 : zmlP 12 187 mX11_tick 0 11 1 := zmlP0 ⟨zmd_mX11_tick, .inl (zmem 1687 (by decide +kernel)), zmem 1688 (by decide +kernel), zmem 1689 (by decide +kernel), ⟨10, rfl, RX11, TX11, 60, rfl, rfl⟩, by decide +kernel⟩
theorem zmlp_12_188 : zmlP 12 188 mL_trial 5 0 6 := zmlPx (by decide)
theorem zmlp_12_190 : zmlP 12 190 mX11_trial 0 11 4 := zmlP0 ⟨zmd_mX11_trial, .inl (zmem 1696 (by decide +kernel)), zmem 1697 (by decide +kernel), zmem 1698 (by decide +kernel), ⟨10, rfl, RX11, TX11, 60, rfl, rfl⟩, by decide +kernel⟩
theorem zmlp_12_191 : zmlP 12 191 mL_bid 5 0 8 := zmlPx (by decide)
theorem zmlp_12_193 : zmlP 12 193 mX11_bid 0 11 6 := zmlP0 ⟨zmd_mX11_bid, .inl (zmem 1700 (by decide +kernel)), zmem 1701 (by decide +kernel), zmem 1702 (by decide +kernel), ⟨10, rfl, RX11, TX11, 60, rfl, rfl⟩, by decide +kernel⟩
theorem zmlp_12_194 : zmlP 12 194 mL_cost 5 0 5 := zmlPx (by decide)
theorem zmlp_12_196 : zmlP 12 196 mX11_cost 0 11 3 := zmlP0 ⟨zmd_mX11_cost, .inl (zmem 1704 (by decide +kernel)), zmem 1705 (by decide +kernel), zmem 1706 (by decide +kernel), ⟨10, rfl, RX11, TX11, 60, rfl, rfl⟩, by decide +kernel⟩
theorem zmlp_12_197 : zmlP 12 197 mL_chosen 5 0 6 := zmlPx (by decide)
theorem zmlp_12_199 : zmlP 12 199 mX11_chosen 0 11 4 := zmlP0 ⟨zmd_mX11_chosen, .inl (zmem 1714 (by decide +kernel)), zmem 1715 (by decide +kernel), zmem 1716 (by decide +kernel), ⟨10, rfl, RX11, TX11, 60, rfl, rfl⟩, by decide +kernel⟩
theorem zmlp_12_200 : zmlP 12 200 mL_linear 5 0 3 := zmlPx (by decide)
theorem zmlp_12_202 : zmlP 12 202 mX11_linear 0 11 1 := zmlP0 ⟨zmd_mX11_linear, .inl (zmem 1723 (by decide +kernel)), zmem 1724 (by decide +kernel), zmem 1725 (by decide +kernel), ⟨10, rfl, RX11, TX11, 60, rfl, rfl⟩, by decide +kernel⟩
theorem zmlp_12_203 : zmlP 12 203 mL_lot 5 0 6 := zmlPx (by decide)
theorem zmlp_12_205 : zmlP 12 205 mX11_lot 0 11 4 := zmlP0 ⟨zmd_mX11_lot, .inl (zmem 1755 (by decide +kernel)), zmem 1756 (by decide +kernel), zmem 1757 (by decide +kernel), ⟨10, rfl, RX11, TX11, 60, rfl, rfl⟩, by decide +kernel⟩
theorem zmlp_12_206 : zmlP 12 206 mL_part 5 0 6 := zmlPx (by decide)
theorem zmlp_12_208 : zmlP 12 208 mX11_part 0 11 4 := zmlP0 ⟨zmd_mX11_part, .inl (zmem 1759 (by decide +kernel)), zmem 1760 (by decide +kernel), zmem 1761 (by decide +kernel), ⟨10, rfl, RX11, TX11, 60, rfl, rfl⟩, by decide +kernel⟩
theorem zmlp_12_209 : zmlP 12 209 mL_out 5 0 5 := zmlPx (by decide)
theorem zmlp_12_211 : zmlP 12 211 mX11_out 0 11 3 := zmlP0 ⟨zmd_mX11_out, .inl (zmem 1763 (by decide +kernel)), zmem 1764 (by decide +kernel), zmem 1765 (by decide +kernel), ⟨10, rfl, RX11, TX11, 60, rfl, rfl⟩, by decide +kernel⟩
theorem zmlp_12_212 : zmlP 12 212 mX10_count 0 10 1 := zmlP0 ⟨zmd_mX10_count, .inl (zmem 427 (by decide +kernel)), zmem 428 (by decide +kernel), zmem 429 (by decide +kernel), ⟨9, rfl, RX10, TX10, 8, rfl, rfl⟩, by decide +kernel⟩
theorem zmlp_12_215 : zmlP 12 215 mX11_count 0 11 1 := zmlP0 ⟨zmd_mX11_count, .inl (zmem 1771 (by decide +kernel)), zmem 1772 (by decide +kernel), zmem 1773 (by decide +kernel), ⟨10, rfl, RX11, TX11, 60, rfl, rfl⟩, by decide +kernel⟩
theorem zmlp_12_216 : zmlP 12 216 mL_purse 5 0 3 := zmlPx (by decide)
theorem zmlp_12_218 : zmlP 12 218 mX11_purse 0 11 1 := zmlP0 ⟨zmd_mX11_purse, .inl (zmem 1779 (by decide +kernel)), zmem 1780 (by decide +kernel), zmem 1781 (by decide +kernel), ⟨10, rfl, RX11, TX11, 60, rfl, rfl⟩, by decide +kernel⟩
theorem zml0_ok {n : Nat} {y : zM} {t kd m : Nat} (h : zml0 n = some (y, t, kd, m)) : zmlP 0 n y t kd m := by
  unfold zml0 at h
  split at h
  · cases h; exact zmlp_0_3
  · cases h; exact zmlp_0_31
  · cases h; exact zmlp_0_44
  · cases h; exact zmlp_0_52
  · cases h; exact zmlp_0_56
  · cases h; exact zmlp_0_63
  · cases h; exact zmlp_0_79
  · cases h
theorem zml1_ok {n : Nat} {y : zM} {t kd m : Nat} (h : zml1 n = some (y, t, kd, m)) : zmlP 1 n y t kd m := by
  unfold zml1 at h
  split at h
  · cases h; exact zmlp_1_3
  · cases h; exact zmlp_1_11
  · cases h; exact zmlp_1_32
  · cases h; exact zmlp_1_36
  · cases h; exact zmlp_1_43
  · cases h; exact zmlp_1_46
  · cases h; exact zmlp_1_56
  · cases h; exact zmlp_1_59
  · cases h; exact zmlp_1_62
  · cases h; exact zmlp_1_65
  · cases h; exact zmlp_1_68
  · cases h; exact zmlp_1_72
  · cases h; exact zmlp_1_75
  · cases h; exact zmlp_1_80
  · cases h; exact zmlp_1_84
  · cases h; exact zmlp_1_92
  · cases h; exact zmlp_1_97
  · cases h; exact zmlp_1_100
  · cases h; exact zmlp_1_103
  · cases h; exact zmlp_1_108
  · cases h; exact zmlp_1_111
  · cases h; exact zmlp_1_114
  · cases h; exact zmlp_1_117
  · cases h; exact zmlp_1_121
  · cases h; exact zmlp_1_124
  · cases h
theorem zml2_ok {n : Nat} {y : zM} {t kd m : Nat} (h : zml2 n = some (y, t, kd, m)) : zmlP 2 n y t kd m := by
  unfold zml2 at h
  split at h
  · cases h; exact zmlp_2_3
  · cases h; exact zmlp_2_11
  · cases h; exact zmlp_2_28
  · cases h; exact zmlp_2_29
  · cases h; exact zmlp_2_40
  · cases h; exact zmlp_2_55
  · cases h; exact zmlp_2_69
  · cases h; exact zmlp_2_78
  · cases h; exact zmlp_2_84
  · cases h; exact zmlp_2_88
  · cases h; exact zmlp_2_107
  · cases h; exact zmlp_2_117
  · cases h; exact zmlp_2_124
  · cases h; exact zmlp_2_127
  · cases h; exact zmlp_2_134
  · cases h; exact zmlp_2_139
  · cases h; exact zmlp_2_142
  · cases h; exact zmlp_2_152
  · cases h; exact zmlp_2_156
  · cases h; exact zmlp_2_160
  · cases h; exact zmlp_2_164
  · cases h
theorem zml3_ok {n : Nat} {y : zM} {t kd m : Nat} (h : zml3 n = some (y, t, kd, m)) : zmlP 3 n y t kd m := by
  unfold zml3 at h
  split at h
  · cases h; exact zmlp_3_1
  · cases h
theorem zml4_ok {n : Nat} {y : zM} {t kd m : Nat} (h : zml4 n = some (y, t, kd, m)) : zmlP 4 n y t kd m := by
  unfold zml4 at h
  split at h
  · cases h; exact zmlp_4_9
  · cases h; exact zmlp_4_17
  · cases h; exact zmlp_4_21
  · cases h; exact zmlp_4_24
  · cases h; exact zmlp_4_37
  · cases h; exact zmlp_4_40
  · cases h; exact zmlp_4_44
  · cases h; exact zmlp_4_47
  · cases h; exact zmlp_4_53
  · cases h
theorem zml5_ok {n : Nat} {y : zM} {t kd m : Nat} (h : zml5 n = some (y, t, kd, m)) : zmlP 5 n y t kd m := by
  unfold zml5 at h
  split at h
  · cases h; exact zmlp_5_3
  · cases h; exact zmlp_5_29
  · cases h; exact zmlp_5_37
  · cases h; exact zmlp_5_41
  · cases h; exact zmlp_5_45
  · cases h; exact zmlp_5_55
  · cases h; exact zmlp_5_59
  · cases h; exact zmlp_5_62
  · cases h; exact zmlp_5_66
  · cases h; exact zmlp_5_69
  · cases h; exact zmlp_5_73
  · cases h; exact zmlp_5_77
  · cases h; exact zmlp_5_81
  · cases h; exact zmlp_5_84
  · cases h; exact zmlp_5_87
  · cases h; exact zmlp_5_91
  · cases h; exact zmlp_5_95
  · cases h
theorem zml6_ok {n : Nat} {y : zM} {t kd m : Nat} (h : zml6 n = some (y, t, kd, m)) : zmlP 6 n y t kd m := by
  unfold zml6 at h
  split at h
  · cases h; exact zmlp_6_3
  · cases h; exact zmlp_6_11
  · cases h; exact zmlp_6_50
  · cases h; exact zmlp_6_74
  · cases h
theorem zml7_ok {n : Nat} {y : zM} {t kd m : Nat} (h : zml7 n = some (y, t, kd, m)) : zmlP 7 n y t kd m := by
  unfold zml7 at h
  split at h
  · cases h; exact zmlp_7_3
  · cases h; exact zmlp_7_15
  · cases h; exact zmlp_7_50
  · cases h; exact zmlp_7_53
  · cases h; exact zmlp_7_57
  · cases h; exact zmlp_7_61
  · cases h
theorem zml8_ok {n : Nat} {y : zM} {t kd m : Nat} (h : zml8 n = some (y, t, kd, m)) : zmlP 8 n y t kd m := by
  unfold zml8 at h
  split at h
  · cases h; exact zmlp_8_3
  · cases h; exact zmlp_8_19
  · cases h; exact zmlp_8_31
  · cases h; exact zmlp_8_43
  · cases h; exact zmlp_8_47
  · cases h; exact zmlp_8_50
  · cases h; exact zmlp_8_53
  · cases h; exact zmlp_8_57
  · cases h; exact zmlp_8_63
  · cases h; exact zmlp_8_67
  · cases h; exact zmlp_8_70
  · cases h
theorem zml9_ok {n : Nat} {y : zM} {t kd m : Nat} (h : zml9 n = some (y, t, kd, m)) : zmlP 9 n y t kd m := by
  unfold zml9 at h
  split at h
  · cases h; exact zmlp_9_3
  · cases h; exact zmlp_9_32
  · cases h; exact zmlp_9_39
  · cases h
theorem zml10_ok {n : Nat} {y : zM} {t kd m : Nat} (h : zml10 n = some (y, t, kd, m)) : zmlP 10 n y t kd m := by
  unfold zml10 at h
  split at h
  · cases h; exact zmlp_10_1
  · cases h; exact zmlp_10_9
  · cases h; exact zmlp_10_18
  · cases h; exact zmlp_10_25
  · cases h; exact zmlp_10_40
  · cases h; exact zmlp_10_50
  · cases h; exact zmlp_10_55
  · cases h; exact zmlp_10_65
  · cases h; exact zmlp_10_72
  · cases h; exact zmlp_10_78
  · cases h; exact zmlp_10_82
  · cases h; exact zmlp_10_86
  · cases h; exact zmlp_10_107
  · cases h; exact zmlp_10_112
  · cases h; exact zmlp_10_116
  · cases h; exact zmlp_10_123
  · cases h; exact zmlp_10_127
  · cases h; exact zmlp_10_131
  · cases h; exact zmlp_10_134
  · cases h; exact zmlp_10_137
  · cases h; exact zmlp_10_153
  · cases h; exact zmlp_10_166
  · cases h; exact zmlp_10_179
  · cases h; exact zmlp_10_186
  · cases h; exact zmlp_10_199
  · cases h; exact zmlp_10_205
  · cases h; exact zmlp_10_209
  · cases h; exact zmlp_10_234
  · cases h; exact zmlp_10_240
  · cases h; exact zmlp_10_244
  · cases h; exact zmlp_10_252
  · cases h; exact zmlp_10_255
  · cases h; exact zmlp_10_260
  · cases h; exact zmlp_10_263
  · cases h; exact zmlp_10_266
  · cases h; exact zmlp_10_269
  · cases h; exact zmlp_10_272
  · cases h; exact zmlp_10_278
  · cases h; exact zmlp_10_283
  · cases h; exact zmlp_10_293
  · cases h; exact zmlp_10_302
  · cases h; exact zmlp_10_306
  · cases h; exact zmlp_10_309
  · cases h; exact zmlp_10_316
  · cases h; exact zmlp_10_319
  · cases h; exact zmlp_10_326
  · cases h; exact zmlp_10_334
  · cases h; exact zmlp_10_338
  · cases h; exact zmlp_10_341
  · cases h
theorem zml11_ok {n : Nat} {y : zM} {t kd m : Nat} (h : zml11 n = some (y, t, kd, m)) : zmlP 11 n y t kd m := by
  unfold zml11 at h
  split at h
  · cases h; exact zmlp_11_3
  · cases h; exact zmlp_11_163
  · cases h; exact zmlp_11_170
  · cases h; exact zmlp_11_173
  · cases h; exact zmlp_11_179
  · cases h; exact zmlp_11_183
  · cases h; exact zmlp_11_187
  · cases h; exact zmlp_11_191
  · cases h; exact zmlp_11_198
  · cases h; exact zmlp_11_208
  · cases h; exact zmlp_11_211
  · cases h; exact zmlp_11_215
  · cases h; exact zmlp_11_218
  · cases h; exact zmlp_11_221
  · cases h; exact zmlp_11_226
  · cases h; exact zmlp_11_229
  · cases h; exact zmlp_11_234
  · cases h; exact zmlp_11_237
  · cases h; exact zmlp_11_240
  · cases h; exact zmlp_11_243
  · cases h; exact zmlp_11_252
  · cases h; exact zmlp_11_255
  · cases h; exact zmlp_11_259
  · cases h; exact zmlp_11_262
  · cases h; exact zmlp_11_265
  · cases h; exact zmlp_11_268
  · cases h; exact zmlp_11_271
  · cases h; exact zmlp_11_276
  · cases h; exact zmlp_11_280
  · cases h; exact zmlp_11_284
  · cases h; exact zmlp_11_287
  · cases h; exact zmlp_11_291
  · cases h; exact zmlp_11_294
  · cases h; exact zmlp_11_298
  · cases h; exact zmlp_11_301
  · cases h; exact zmlp_11_305
  · cases h; exact zmlp_11_308
  · cases h; exact zmlp_11_311
  · cases h; exact zmlp_11_315
  · cases h; exact zmlp_11_318
  · cases h; exact zmlp_11_321
  · cases h; exact zmlp_11_324
  · cases h; exact zmlp_11_327
  · cases h; exact zmlp_11_333
  · cases h; exact zmlp_11_336
  · cases h; exact zmlp_11_343
  · cases h; exact zmlp_11_346
  · cases h; exact zmlp_11_349
  · cases h; exact zmlp_11_352
  · cases h; exact zmlp_11_355
  · cases h; exact zmlp_11_362
  · cases h; exact zmlp_11_365
  · cases h; exact zmlp_11_368
  · cases h; exact zmlp_11_372
  · cases h; exact zmlp_11_380
  · cases h; exact zmlp_11_390
  · cases h; exact zmlp_11_399
  · cases h; exact zmlp_11_402
  · cases h; exact zmlp_11_405
  · cases h; exact zmlp_11_408
  · cases h; exact zmlp_11_411
  · cases h; exact zmlp_11_414
  · cases h; exact zmlp_11_417
  · cases h; exact zmlp_11_420
  · cases h; exact zmlp_11_423
  · cases h
theorem zml12_ok {n : Nat} {y : zM} {t kd m : Nat} (h : zml12 n = some (y, t, kd, m)) : zmlP 12 n y t kd m := by
  unfold zml12 at h
  split at h
  · cases h; exact zmlp_12_7
  · cases h; exact zmlp_12_15
  · cases h; exact zmlp_12_21
  · cases h; exact zmlp_12_24
  · cases h; exact zmlp_12_28
  · cases h; exact zmlp_12_31
  · cases h; exact zmlp_12_34
  · cases h; exact zmlp_12_38
  · cases h; exact zmlp_12_42
  · cases h; exact zmlp_12_45
  · cases h; exact zmlp_12_48
  · cases h; exact zmlp_12_51
  · cases h; exact zmlp_12_54
  · cases h; exact zmlp_12_58
  · cases h; exact zmlp_12_61
  · cases h; exact zmlp_12_64
  · cases h; exact zmlp_12_67
  · cases h; exact zmlp_12_71
  · cases h; exact zmlp_12_76
  · cases h; exact zmlp_12_79
  · cases h; exact zmlp_12_82
  · cases h; exact zmlp_12_86
  · cases h; exact zmlp_12_90
  · cases h; exact zmlp_12_93
  · cases h; exact zmlp_12_96
  · cases h; exact zmlp_12_99
  · cases h; exact zmlp_12_102
  · cases h; exact zmlp_12_105
  · cases h; exact zmlp_12_108
  · cases h; exact zmlp_12_109
  · cases h; exact zmlp_12_113
  · cases h; exact zmlp_12_114
  · cases h; exact zmlp_12_119
  · cases h; exact zmlp_12_120
  · cases h; exact zmlp_12_124
  · cases h; exact zmlp_12_127
  · cases h; exact zmlp_12_128
  · cases h; exact zmlp_12_131
  · cases h; exact zmlp_12_132
  · cases h; exact zmlp_12_134
  · cases h; exact zmlp_12_135
  · cases h; exact zmlp_12_138
  · cases h; exact zmlp_12_139
  · cases h; exact zmlp_12_141
  · cases h; exact zmlp_12_142
  · cases h; exact zmlp_12_144
  · cases h; exact zmlp_12_145
  · cases h; exact zmlp_12_148
  · cases h; exact zmlp_12_149
  · cases h; exact zmlp_12_152
  · cases h; exact zmlp_12_153
  · cases h; exact zmlp_12_155
  · cases h; exact zmlp_12_156
  · cases h; exact zmlp_12_158
  · cases h; exact zmlp_12_159
  · cases h; exact zmlp_12_161
  · cases h; exact zmlp_12_162
  · cases h; exact zmlp_12_164
  · cases h; exact zmlp_12_165
  · cases h; exact zmlp_12_167
  · cases h; exact zmlp_12_168
  · cases h; exact zmlp_12_171
  · cases h; exact zmlp_12_172
  · cases h; exact zmlp_12_174
  · cases h; exact zmlp_12_175
  · cases h; exact zmlp_12_177
  · cases h; exact zmlp_12_178
  · cases h; exact zmlp_12_180
  · cases h; exact zmlp_12_181
  · cases h; exact zmlp_12_184
  · cases h; exact zmlp_12_185
  · cases h; exact zmlp_12_187
  · cases h; exact zmlp_12_188
  · cases h; exact zmlp_12_190
  · cases h; exact zmlp_12_191
  · cases h; exact zmlp_12_193
  · cases h; exact zmlp_12_194
  · cases h; exact zmlp_12_196
  · cases h; exact zmlp_12_197
  · cases h; exact zmlp_12_199
  · cases h; exact zmlp_12_200
  · cases h; exact zmlp_12_202
  · cases h; exact zmlp_12_203
  · cases h; exact zmlp_12_205
  · cases h; exact zmlp_12_206
  · cases h; exact zmlp_12_208
  · cases h; exact zmlp_12_209
  · cases h; exact zmlp_12_211
  · cases h; exact zmlp_12_212
  · cases h; exact zmlp_12_215
  · cases h; exact zmlp_12_216
  · cases h; exact zmlp_12_218
  · cases h
theorem zml_ok {o n : Nat} {y : zM} {t kd m : Nat} (h : zml o n = some (y, t, kd, m)) : zmlP o n y t kd m := by
  match o, h with
  | 0, h => exact zml0_ok h
  | 1, h => exact zml1_ok h
  | 2, h => exact zml2_ok h
  | 3, h => exact zml3_ok h
  | 4, h => exact zml4_ok h
  | 5, h => exact zml5_ok h
  | 6, h => exact zml6_ok h
  | 7, h => exact zml7_ok h
  | 8, h => exact zml8_ok h
  | 9, h => exact zml9_ok h
  | 10, h => exact zml10_ok h
  | 11, h => exact zml11_ok h
  | 12, h => exact zml12_ok h
  | n + 13, h => simp [zml] at h
/-! CONSTANTS, CLASSES -/
theorem zld_ok {o n : Nat} {v : Int32} (h : zld o n = some v) : Cond.constant (zRn o) n v ∈ lw_tbl := by
  unfold zld at h
  split at h
  · cases h; exact zmem 426 (by decide +kernel)
  · cases h; exact zmem 451 (by decide +kernel)
  · cases h; exact zmem 540 (by decide +kernel)
  · cases h; exact zmem 593 (by decide +kernel)
  · cases h; exact zmem 1047 (by decide +kernel)
  · cases h; exact zmem 1067 (by decide +kernel)
  · cases h; exact zmem 1072 (by decide +kernel)
  · cases h; exact zmem 1136 (by decide +kernel)
  · cases h; exact zmem 1137 (by decide +kernel)
  · cases h; exact zmem 1138 (by decide +kernel)
  · cases h; exact zmem 1410 (by decide +kernel)
  · cases h; exact zmem 1490 (by decide +kernel)
  · cases h; exact zmem 1594 (by decide +kernel)
  · cases h; exact zmem 1691 (by decide +kernel)
  · cases h
theorem zl2_ok {o n : Nat} {v : Int64} (h : zl2 o n = some v) : Cond.constantLong (zRn o) n v ∈ lw_tbl := by
  unfold zl2 at h
  split at h
  · cases h; exact zmem 974 (by decide +kernel)
  · cases h; exact zmem 1119 (by decide +kernel)
  · cases h; exact zmem 1120 (by decide +kernel)
  · cases h; exact zmem 1121 (by decide +kernel)
  · cases h; exact zmem 1125 (by decide +kernel)
  · cases h; exact zmem 1155 (by decide +kernel)
  · cases h; exact zmem 1712 (by decide +kernel)
  · cases h; exact zmem 1713 (by decide +kernel)
  · cases h; exact zmem 1722 (by decide +kernel)
  · cases h
theorem znw_ok {o n : Nat} {kd m : Nat} (h : znw o n = some (kd, m)) : ∃ ci C T, kd = 1 + ci ∧ vwCl[ci]? = some (C, T, m) ∧ Cond.classLink (zRn o) n C ∈ lw_tbl := by
  unfold znw at h
  split at h
  · cases h; exact ⟨9, RX10, TX10, rfl, rfl, zmem 25 (by decide +kernel)⟩
  · cases h; exact ⟨1, RX1, TX1, rfl, rfl, zmem 33 (by decide +kernel)⟩
  · cases h; exact ⟨7, RX8, TX8, rfl, rfl, zmem 39 (by decide +kernel)⟩
  · cases h; exact ⟨2, RX2, TX2, rfl, rfl, zmem 98 (by decide +kernel)⟩
  · cases h; exact ⟨4, RX5, TX5, rfl, rfl, zmem 104 (by decide +kernel)⟩
  · cases h; exact ⟨3, RX3, TX3, rfl, rfl, zmem 127 (by decide +kernel)⟩
  · cases h; exact ⟨0, RX0, TX0, rfl, rfl, zmem 171 (by decide +kernel)⟩
  · cases h; exact ⟨8, RX9, TX9, rfl, rfl, zmem 206 (by decide +kernel)⟩
  · cases h; exact ⟨5, RX6, TX6, rfl, rfl, zmem 215 (by decide +kernel)⟩
  · cases h; exact ⟨6, RX7, TX7, rfl, rfl, zmem 222 (by decide +kernel)⟩
  · cases h; exact ⟨10, RX11, TX11, rfl, rfl, zmem 1210 (by decide +kernel)⟩
  · cases h
theorem zna_ok {o n : Nat} {kd : Nat} (h : zna o n = some kd) : ∃ C, 105 ≤ kd ∧ kd ≤ 107 ∧ zaty kd = .object C ∧ Cond.classLink (zRn o) n C ∈ lw_tbl ∧ (C = RX9 ∨ C = RX6 ∨ C = RX3) := by
  unfold zna at h
  split at h
  · cases h; exact ⟨RX3, by decide, by decide, rfl, zmem 127 (by decide +kernel), .inr (.inr rfl)⟩
  · cases h; exact ⟨RX9, by decide, by decide, rfl, zmem 206 (by decide +kernel), .inl rfl⟩
  · cases h; exact ⟨RX6, by decide, by decide, rfl, zmem 215 (by decide +kernel), .inr (.inl rfl)⟩
  · cases h
theorem zxat0 : ∀ w ∈ vx_at0 RX10 61 "java/lang/IllegalArgumentException" ["java/lang/RuntimeException", "java/lang/Exception"], w ∈ lw_tbl := by decide +kernel
theorem zxok0 : ∀ w ∈ vx_at0 RX10 61 "java/lang/IllegalArgumentException" ["java/lang/RuntimeException", "java/lang/Exception"], zok w = true := by decide +kernel
theorem zxat1 : ∀ w ∈ vx_at0 RX10 325 "java/lang/IndexOutOfBoundsException" ["java/lang/RuntimeException", "java/lang/Exception"], w ∈ lw_tbl := by decide +kernel
theorem zxok1 : ∀ w ∈ vx_at0 RX10 325 "java/lang/IndexOutOfBoundsException" ["java/lang/RuntimeException", "java/lang/Exception"], zok w = true := by decide +kernel
theorem zxat2 : ∀ w ∈ vx_at0 RX10 251 "java/lang/IllegalStateException" ["java/lang/RuntimeException", "java/lang/Exception"], w ∈ lw_tbl := by decide +kernel
theorem zxok2 : ∀ w ∈ vx_at0 RX10 251 "java/lang/IllegalStateException" ["java/lang/RuntimeException", "java/lang/Exception"], zok w = true := by decide +kernel
def zxcP (ik : Nat) (E : String) (ic : Nat) : Prop := Cond.classLink RX10 ik E ∈ lw_tbl ∧ Cond.initialized E ∈ lw_tbl ∧ Bundle.fit E = true ∧ (∀ w ∈ vx_at0 RX10 ic E ["java/lang/RuntimeException", "java/lang/Exception"], w ∈ lw_tbl ∧ zok w = true)
theorem zxc_ok {o n : Nat} {E : String} {ic : Nat} (h : zxc o n = some (E, ic)) : o = 10 ∧ zxcP n E ic := by
  unfold zxc at h
  split at h
  · cases h; exact ⟨rfl, zmem 455 (by decide +kernel), zmem 15 (by decide +kernel), by decide +kernel, fun w hw => ⟨zxat0 w hw, zxok0 w hw⟩⟩
  · cases h; exact ⟨rfl, zmem 730 (by decide +kernel), zmem 22 (by decide +kernel), by decide +kernel, fun w hw => ⟨zxat1 w hw, zxok1 w hw⟩⟩
  · cases h; exact ⟨rfl, zmem 1048 (by decide +kernel), zmem 23 (by decide +kernel), by decide +kernel, fun w hw => ⟨zxat2 w hw, zxok2 w hw⟩⟩
  · cases h
theorem zmaxi_ok : Cond.static Lib.Math.max.name ∈ lw_tbl ∧ Cond.initialized "java/lang/Math" ∈ lw_tbl ∧ Cond.code Lib.Math.max.name Lib.Math.max.code 2 (some .int) ∈ lw_tbl := ⟨zmem 1075 (by decide +kernel), zmem 16 (by decide +kernel), zmem 1076 (by decide +kernel)⟩
theorem zmini_ok : Cond.static Lib.Math.min.name ∈ lw_tbl ∧ Cond.initialized "java/lang/Math" ∈ lw_tbl ∧ Cond.code Lib.Math.min.name Lib.Math.min.code 2 (some .int) ∈ lw_tbl := ⟨zmem 527 (by decide +kernel), zmem 16 (by decide +kernel), zmem 528 (by decide +kernel)⟩
theorem zmaxl_ok : Cond.static Lib.MathLoose.max_long.x ∈ lw_tbl ∧ Cond.initialized "java/lang/Math" ∈ lw_tbl ∧ Cond.code Lib.MathLoose.max_long.x Lib.MathLoose.max_long.code 4 (some .long) ∈ lw_tbl := ⟨zmem 1123 (by decide +kernel), zmem 16 (by decide +kernel), zmem 1124 (by decide +kernel)⟩
theorem zobj_ok : Cond.instanceMethod Lib.objectInit ∈ lw_tbl ∧ Cond.code Lib.objectInit ⟨#[0xb1]⟩ 1 none ∈ lw_tbl := ⟨zmem 31 (by decide +kernel), zmem 32 (by decide +kernel)⟩
theorem zmna_ok : Cond.classLink (zRn 9) 21 ("[" ++ (FieldType.array .int).toString) ∈ lw_tbl := zmem 213 (by decide +kernel)
