/-! tables of the program: classes, methods, pool entries, with their places in lw_tbl -/
def zRn : Nat → String := fun c => match c with
  | 0 => RX0
  | 1 => RX1
  | 2 => RX2
  | 3 => RX3
  | 4 => RX4
  | 5 => RX5
  | 6 => RX6
  | 7 => RX7
  | _ => RL
def zT : Nat → u_T := fun c => match c with
  | 0 => TX0
  | 1 => TX1
  | 2 => TX2
  | 3 => TX3
  | 4 => TX4
  | 5 => TX5
  | 6 => TX6
  | _ => TX7
def zty : Nat → Nat → FieldType := fun c => match c with
  | 0 => tyX0
  | 1 => tyX1
  | 2 => tyX2
  | 3 => tyX3
  | 4 => tyX4
  | 5 => tyX5
  | 6 => tyX6
  | _ => tyX7
def zN : Nat → Nat := fun c => match c with
  | 0 => 9
  | 1 => 7
  | 2 => 5
  | 3 => 3
  | 4 => 3
  | 5 => 3
  | 6 => 9
  | 7 => 32
  | _ => 0
abbrev zCl : List vw_C := [(RX0, TX0, 9), (RX1, TX1, 7), (RX2, TX2, 5), (RX3, TX3, 3), (RX4, TX4, 3), (RX5, TX5, 3), (RX6, TX6, 9), (RX7, TX7, 32)]
abbrev zE : Type := MethodName × ByteArray × Nat × Option FieldType × Nat × Nat × Nat × Nat × Nat × Nat
def zmT0 : List zE := [
  (yX0_init, cX0_init, 1, none, 0, 0, 179, 178, 0, 47),
  (yX0_ask, cX0_ask, 4, none, 0, 3, 407, 405, 406, 47),
  (yX0_follow, cX0_follow, 4, none, 0, 2, 378, 376, 377, 47),
  (yX0_isLaid, cX0_isLaid, 4, (some .boolean), 0, 1, 332, 330, 331, 47),
  (yX0_has, cX0_has, 2, (some .boolean), 0, 1, 327, 325, 326, 47),
  (yX0_isLaidOn, cX0_isLaidOn, 2, (some .boolean), 0, 1, 323, 321, 322, 47),
  (yX0_isLaidAt, cX0_isLaidAt, 3, (some .boolean), 0, 2, 319, 317, 318, 47),
  (yX0_isLaidBetween, cX0_isLaidBetween, 5, (some .boolean), 0, 3, 315, 313, 314, 47),
  (yX0_sleep, cX0_sleep, 2, (some .boolean), 0, 1, 524, 522, 523, 47),
  (yX0_sleptAt, cX0_sleptAt, 3, (some .boolean), 0, 2, 536, 534, 535, 47),
  (yX0_nightsSlept, cX0_nightsSlept, 3, (some .int), 0, 0, 466, 464, 465, 47),
  (yX0_didLessThan, cX0_didLessThan, 2, (some .boolean), 0, 1, 540, 538, 539, 47),
  (yX1_init, cX1_init, 1, none, 1, 0, 69, 68, 0, 43),
  (yX1_furnish, cX1_furnish, 4, none, 1, 2, 267, 265, 266, 43),
  (yX1_freeBeds, cX1_freeBeds, 4, (some .int), 1, 1, 299, 297, 298, 43),
  (yX1_hasRoom, cX1_hasRoom, 3, (some .boolean), 1, 2, 364, 362, 363, 43),
  (yX1_close, cX1_close, 4, none, 1, 2, 311, 309, 310, 43),
  (yX1_freeInSet, cX1_freeInSet, 5, (some .int), 1, 2, 396, 394, 395, 43),
  (yX1_dormsFor, cX1_dormsFor, 4, (some .int), 1, 2, 390, 388, 389, 43),
  (yX1_fill, cX1_fill, 9, none, 1, 4, 386, 384, 385, 43),
  (yX1_clear, cX1_clear, 5, none, 1, 3, 347, 345, 346, 43),
  (yX1_endNight, cX1_endNight, 1, none, 1, 0, 544, 542, 543, 43)]
def zmT1 : List zE := [
  (yX2_init, cX2_init, 1, none, 2, 0, 139, 138, 0, 45),
  (yX2_receive, cX2_receive, 4, (some .int), 2, 3, 478, 476, 477, 45),
  (yX2_nextToOpen, cX2_nextToOpen, 5, (some .int), 2, 1, 486, 484, 485, 45),
  (yX2_unopened, cX2_unopened, 3, (some .int), 2, 0, 568, 566, 567, 45),
  (yX3_init, cX3_init, 1, none, 3, 0, 163, 162, 0, 46),
  (yX3_write, cX3_write, 3, (some .int), 3, 2, 560, 558, 559, 46),
  (yX3_hundredthsFor, cX3_hundredthsFor, 4, (some .int), 3, 1, 453, 451, 452, 46),
  (yX4_init, cX4_init, 2, none, 4, 0, 62, 61, 0, 42),
  (yX4_hasHouse, cX4_hasHouse, 2, (some .boolean), 4, 1, 275, 273, 274, 42),
  (yX4_build, cX4_build, 6, (some .int), 4, 4, 263, 261, 262, 42),
  (yX4_join, cX4_join, 4, (some .int), 4, 3, 284, 282, 283, 42),
  (yX4_joined, cX4_joined, 3, (some .boolean), 4, 2, 280, 278, 279, 42),
  (yX4_firstBar, cX4_firstBar, 4, (some .int), 4, 1, 431, 429, 430, 42),
  (yX4_milesSlept, cX4_milesSlept, 4, (some .int), 4, 1, 462, 460, 461, 42),
  (yX5_init, cX5_init, 2, none, 5, 1, 120, 119, 0, 44),
  (yX5_find, cX5_find, 6, (some .int), 5, 2, 351, 349, 350, 44),
  (yX5_leastParting, cX5_leastParting, 7, (some .int), 5, 4, 356, 355, 2, 44),
  (yX5_canBeIn, cX5_canBeIn, 5, (some .boolean), 5, 4, 360, 359, 3, 44),
  (yX5_leastNext, cX5_leastNext, 7, (some .int), 5, 2, 369, 368, 4, 44),
  (yX5_trace, cX5_trace, 5, none, 5, 2, 374, 373, 5, 44),
  (yX6_init, cX6_init, 2, none, 6, 0, 54, 53, 0, 41),
  (yX6_house, cX6_house, 6, (some .int), 6, 4, 256, 254, 255, 41)]
def zmT2 : List zE := [
  (yX6_stage, cX6_stage, 4, (some .int), 6, 3, 271, 269, 270, 41),
  (yX6_chores, cX6_chores, 5, (some .int), 6, 2, 288, 286, 287, 41),
  (yX6_free, cX6_free, 5, (some .int), 6, 3, 292, 290, 291, 41),
  (yX6_isShut, cX6_isShut, 3, (some .int), 6, 2, 303, 301, 302, 41),
  (yX6_shut, cX6_shut, 7, (some .int), 6, 3, 307, 305, 306, 41),
  (yX6_chain, cX6_chain, 4, (some .int), 6, 3, 403, 401, 402, 41),
  (yX6_add, cX6_add, 4, (some .int), 6, 2, 411, 409, 410, 41),
  (yX6_give, cX6_give, 2, (some .int), 6, 1, 419, 417, 418, 41),
  (yX6_other, cX6_other, 2, (some .int), 6, 1, 437, 435, 436, 41),
  (yX6_offered, cX6_offered, 3, (some .int), 6, 2, 441, 439, 440, 41),
  (yX6_take, cX6_take, 4, (some .int), 6, 1, 445, 443, 444, 41),
  (yX6_giveUp, cX6_giveUp, 3, (some .int), 6, 1, 449, 447, 448, 41),
  (yX6_about, cX6_about, 4, (some .int), 6, 2, 457, 455, 456, 41),
  (yX6_laid, cX6_laid, 4, (some .int), 6, 3, 470, 468, 469, 41),
  (yX6_letter, cX6_letter, 4, (some .int), 6, 3, 474, 472, 473, 41),
  (yX6_open, cX6_open, 5, (some .int), 6, 1, 482, 480, 481, 41),
  (yX6_arrive, cX6_arrive, 3, (some .int), 6, 1, 494, 492, 493, 41),
  (yX6_door, cX6_door, 6, (some .int), 6, 3, 499, 497, 498, 41),
  (yX6_pass, cX6_pass, 3, (some .int), 6, 0, 516, 514, 515, 41),
  (yX6_suppers, cX6_suppers, 5, (some .int), 6, 2, 552, 550, 551, 41),
  (yX6_list, cX6_list, 3, (some .int), 6, 2, 556, 554, 555, 41),
  (yX6_count, cX6_count, 2, (some .int), 6, 1, 564, 562, 563, 41)]
def zmT3 : List zE := [
  (yX6_digest, cX6_digest, 5, (some .long), 6, 0, 576, 574, 575, 41),
  (yX6_within, cX6_within, 3, (some .boolean), 6, 3, 259, 258, 0, 41),
  (yX6_isNight, cX6_isNight, 1, (some .boolean), 6, 1, 295, 294, 0, 41),
  (yX6_isChain, cX6_isChain, 2, (some .boolean), 6, 1, 415, 414, 7, 41),
  (yX6_canBeGiven, cX6_canBeGiven, 2, (some .boolean), 6, 1, 423, 422, 8, 41),
  (yX6_chainsThatAre, cX6_chainsThatAre, 4, (some .int), 6, 1, 572, 571, 18, 41),
  (yX6_giveOwnWay, cX6_giveOwnWay, 3, (some .int), 6, 1, 427, 426, 9, 41),
  (yX6_answer, cX6_answer, 2, (some .boolean), 6, 1, 490, 489, 10, 41),
  (yX6_layFrom, cX6_layFrom, 4, none, 6, 2, 382, 381, 6, 41),
  (yX6_liftFrom, cX6_liftFrom, 4, none, 6, 2, 343, 342, 1, 41),
  (yX6_leadRound, cX6_leadRound, 3, (some .boolean), 6, 1, 336, 335, 0, 41),
  (yX6_isLate, cX6_isLate, 3, (some .boolean), 6, 2, 507, 506, 12, 41),
  (yX6_bedsOfLate, cX6_bedsOfLate, 4, (some .int), 6, 1, 503, 502, 11, 41),
  (yX6_clearLate, cX6_clearLate, 6, (some .int), 6, 2, 512, 511, 13, 41),
  (yX6_sleepTonight, cX6_sleepTonight, 3, (some .int), 6, 0, 520, 519, 14, 41),
  (yX6_doChores, cX6_doChores, 4, none, 6, 1, 528, 527, 15, 41),
  (yX6_leastDone, cX6_leastDone, 4, (some .int), 6, 1, 532, 531, 16, 41),
  (yX6_endChains, cX6_endChains, 3, none, 6, 0, 548, 547, 17, 41),
  (yX7_init, cX7_init, 1, none, 7, 0, 585, 584, 0, 48),
  (yX7_in, cX7_in, 3, (some .boolean), 7, 3, 690, 689, 0, 48),
  (yX7_isHouse, cX7_isHouse, 2, (some .boolean), 7, 1, 698, 697, 19, 48),
  (yX7_isNight, cX7_isNight, 1, (some .boolean), 7, 1, 709, 708, 0, 48)]
def zmT4 : List zE := [
  (yX7_isChain, cX7_isChain, 2, (some .boolean), 7, 1, 737, 736, 23, 48),
  (yX7_house, cX7_house, 5, (some .int), 7, 4, 687, 685, 686, 48),
  (yX7_stage, cX7_stage, 4, (some .int), 7, 3, 694, 692, 693, 48),
  (yX7_chores, cX7_chores, 4, (some .int), 7, 2, 702, 700, 701, 48),
  (yX7_placeOf, cX7_placeOf, 4, (some .int), 7, 2, 721, 720, 22, 48),
  (yX7_freeIn, cX7_freeIn, 7, (some .int), 7, 3, 717, 716, 21, 48),
  (yX7_freeOf, cX7_freeOf, 3, (some .int), 7, 2, 713, 712, 20, 48),
  (yX7_free, cX7_free, 4, (some .int), 7, 3, 706, 704, 705, 48),
  (yX7_isShut, cX7_isShut, 3, (some .int), 7, 2, 725, 723, 724, 48),
  (yX7_parts, cX7_parts, 10, none, 7, 3, 769, 768, 30, 48),
  (yX7_lays, cX7_lays, 5, none, 7, 2, 765, 764, 29, 48),
  (yX7_takesOut, cX7_takesOut, 3, none, 7, 2, 797, 796, 32, 48),
  (yX7_chain, cX7_chain, 4, (some .int), 7, 3, 729, 727, 728, 48),
  (yX7_add, cX7_add, 3, (some .int), 7, 2, 733, 731, 732, 48),
  (yX7_areJoined, cX7_areJoined, 3, (some .boolean), 7, 2, 753, 752, 26, 48),
  (yX7_isOpen, cX7_isOpen, 4, (some .boolean), 7, 3, 757, 756, 27, 48),
  (yX7_bar, cX7_bar, 4, (some .int), 7, 1, 749, 748, 25, 48),
  (yX7_gives, cX7_gives, 3, none, 7, 1, 761, 760, 28, 48),
  (yX7_refuses, cX7_refuses, 2, (some .int), 7, 1, 745, 744, 24, 48),
  (yX7_give, cX7_give, 4, (some .int), 7, 1, 741, 739, 740, 48),
  (yX7_ways, cX7_ways, 12, (some .int), 7, 3, 777, 776, 31, 48),
  (yX7_other, cX7_other, 3, (some .int), 7, 1, 773, 771, 772, 48)]
def zmT5 : List zE := [
  (yX7_offered, cX7_offered, 4, (some .int), 7, 2, 781, 779, 780, 48),
  (yX7_take, cX7_take, 5, (some .int), 7, 1, 785, 783, 784, 48),
  (yX7_list, cX7_list, 3, (some .int), 7, 2, 789, 787, 788, 48),
  (yX7_giveUp, cX7_giveUp, 5, (some .int), 7, 1, 793, 791, 792, 48),
  (yX7_isLaidThere, cX7_isLaidThere, 6, (some .boolean), 7, 4, 805, 804, 33, 48),
  (yX7_leads, cX7_leads, 6, (some .boolean), 7, 1, 809, 808, 34, 48),
  (yX7_shut, cX7_shut, 6, (some .int), 7, 3, 801, 799, 800, 48),
  (yX7_milesOf, cX7_milesOf, 5, (some .int), 7, 1, 817, 816, 35, 48),
  (yX7_nightsSlept, cX7_nightsSlept, 4, (some .int), 7, 1, 821, 820, 36, 48),
  (yX7_about, cX7_about, 3, (some .int), 7, 2, 813, 811, 812, 48),
  (yX7_laid, cX7_laid, 5, (some .int), 7, 3, 825, 823, 824, 48),
  (yX7_letter, cX7_letter, 4, (some .int), 7, 3, 829, 827, 828, 48),
  (yX7_open, cX7_open, 5, (some .int), 7, 1, 833, 831, 832, 48),
  (yX7_arrive, cX7_arrive, 3, (some .int), 7, 1, 837, 835, 836, 48),
  (yX7_mayLose, cX7_mayLose, 4, (some .boolean), 7, 2, 845, 844, 37, 48),
  (yX7_door, cX7_door, 8, (some .int), 7, 3, 841, 839, 840, 48),
  (yX7_worker, cX7_worker, 5, (some .int), 7, 1, 853, 852, 38, 48),
  (yX7_pass, cX7_pass, 5, (some .int), 7, 0, 849, 847, 848, 48),
  (yX7_suppers, cX7_suppers, 6, (some .int), 7, 2, 857, 855, 856, 48),
  (yX7_inStatus, cX7_inStatus, 4, (some .int), 7, 1, 865, 864, 39, 48),
  (yX7_count, cX7_count, 4, (some .int), 7, 1, 861, 859, 860, 48),
  (yX7_digest, cX7_digest, 5, (some .long), 7, 0, 869, 867, 868, 48)]
def zmT : List zE := zmT0 ++ (zmT1 ++ (zmT2 ++ (zmT3 ++ (zmT4 ++ (zmT5)))))
/-- the law itself stands behind the others -/
def zm0 : zE := (yL_law, cL_law, 4, some .boolean, 8, 1, 0, 0, 0, 0)
def zm (j : Nat) : zE := zmT.getD j zm0
def zy (j : Nat) : MethodName := (zm j).1
def zc (j : Nat) : ByteArray := (zm j).2.1
def zn (j : Nat) : Nat := (zm j).2.2.1
def zr (j : Nat) : Option FieldType := (zm j).2.2.2.1
def zo (j : Nat) : Nat := (zm j).2.2.2.2.1
def zp (j : Nat) : Nat := (zm j).2.2.2.2.2.1
def zlaw : Nat := 132
def zflT : List (Nat × Nat × Nat × Nat × Nat) := [(1, 9, 1, 0, 71), (6, 87, 1, 0, 72), (1, 15, 1, 1, 73), (6, 90, 1, 1, 74), (1, 19, 1, 2, 75), (4, 36, 1, 2, 76), (4, 30, 1, 3, 77), (6, 198, 1, 3, 78), (6, 74, 1, 4, 79), (1, 45, 1, 5, 80), (6, 212, 1, 5, 81), (1, 41, 1, 6, 82), (6, 237, 1, 6, 83), (4, 11, 4, 0, 101), (6, 70, 4, 0, 102), (5, 57, 4, 0, 103), (4, 18, 4, 1, 104), (5, 34, 4, 1, 105), (6, 221, 4, 1, 106), (4, 33, 4, 2, 107), (6, 243, 4, 2, 108), (5, 18, 5, 0, 122), (5, 9, 5, 1, 123), (5, 15, 5, 2, 124), (6, 141, 5, 2, 125), (2, 9, 2, 0, 141), (6, 186, 2, 0, 142), (2, 15, 2, 1, 143), (2, 18, 2, 2, 144), (2, 21, 2, 3, 145), (6, 183, 2, 3, 146), (2, 25, 2, 4, 147), (3, 9, 3, 0, 165), (3, 15, 3, 1, 166), (3, 18, 3, 2, 167), (6, 252, 3, 2, 168), (0, 9, 0, 0, 181), (5, 43, 0, 0, 182), (4, 45, 0, 0, 183), (6, 127, 0, 0, 184), (0, 15, 0, 1, 185), (6, 174, 0, 1, 186), (0, 18, 0, 2, 187), (6, 195, 0, 2, 188), (0, 22, 0, 3, 189), (4, 61, 0, 3, 190), (0, 25, 0, 4, 191), (5, 64, 0, 4, 192), (4, 55, 0, 4, 193), (6, 161, 0, 4, 194), (0, 29, 0, 5, 195), (5, 61, 0, 5, 196), (4, 52, 0, 5, 197), (6, 121, 0, 5, 198), (5, 28, 0, 6, 199), (0, 32, 0, 6, 200), (4, 40, 0, 6, 201), (6, 124, 0, 6, 202), (6, 104, 0, 7, 203), (0, 53, 0, 8, 204), (6, 167, 0, 8, 205), (6, 10, 6, 0, 225), (6, 21, 6, 1, 226), (6, 27, 6, 2, 227), (6, 34, 6, 3, 228), (6, 41, 6, 4, 229), (6, 45, 6, 5, 230), (6, 101, 6, 6, 231), (6, 94, 6, 7, 232), (6, 215, 6, 8, 233), (7, 86, 7, 0, 587), (7, 7, 7, 1, 588), (7, 13, 7, 2, 589), (7, 16, 7, 3, 590), (7, 19, 7, 4, 591), (7, 23, 7, 5, 592), (7, 179, 7, 6, 593), (7, 101, 7, 7, 594), (7, 26, 7, 8, 595), (7, 122, 7, 9, 596), (7, 94, 7, 10, 597), (7, 29, 7, 11, 598), (7, 32, 7, 12, 599), (7, 35, 7, 13, 600), (7, 38, 7, 14, 601), (7, 41, 7, 15, 602), (7, 44, 7, 16, 603), (7, 47, 7, 17, 604), (7, 50, 7, 18, 605), (7, 53, 7, 19, 606), (7, 56, 7, 20, 607), (7, 59, 7, 21, 608), (7, 62, 7, 22, 609), (7, 65, 7, 23, 610), (7, 154, 7, 24, 611), (7, 68, 7, 25, 612), (7, 71, 7, 26, 613), (7, 173, 7, 27, 614), (7, 74, 7, 28, 615), (7, 77, 7, 29, 616), (7, 80, 7, 30, 617), (7, 83, 7, 31, 618)]
/-- own, place, kind (0 virtual, 1 static, 2 init, 3 static of a nest mate, 4 init of a nest mate, 5 Object.init, 6 max, 7 min), method, word -/
def zmlT : List (Nat × Nat × Nat × Nat × Nat) := [(8, 9, 2, 42, 52), (6, 1, 5, 0, 55), (6, 9, 2, 29, 60), (4, 3, 5, 0, 63), (4, 17, 4, 12, 67), (1, 3, 5, 0, 70), (6, 18, 2, 36, 118), (5, 3, 5, 0, 121), (6, 33, 4, 22, 137), (2, 3, 5, 0, 140), (6, 40, 4, 26, 161), (3, 3, 5, 0, 164), (6, 49, 4, 0, 177), (0, 3, 5, 0, 180), (8, 13, 0, 43, 253), (6, 50, 1, 67, 257), (6, 54, 0, 31, 260), (4, 26, 0, 13, 264), (8, 18, 0, 44, 268), (6, 58, 0, 30, 272), (4, 22, 3, 67, 276), (6, 62, 0, 33, 277), (6, 66, 0, 32, 281), (8, 23, 0, 45, 285), (8, 28, 0, 46, 289), (6, 80, 1, 68, 293), (6, 83, 0, 14, 296), (8, 32, 0, 47, 300), (8, 36, 0, 48, 304), (6, 97, 0, 16, 308), (6, 107, 0, 7, 312), (0, 49, 0, 6, 316), (0, 46, 0, 5, 320), (0, 39, 0, 4, 324), (0, 35, 3, 67, 328), (0, 43, 0, 3, 329), (6, 110, 0, 76, 333), (6, 272, 6, 0, 337), (6, 152, 0, 75, 340), (6, 268, 0, 20, 344), (6, 137, 0, 37, 348), (5, 22, 6, 0, 352), (5, 39, 0, 38, 353), (5, 50, 0, 39, 357), (5, 67, 0, 15, 361), (1, 22, 0, 14, 365), (5, 54, 0, 40, 366), (5, 73, 0, 33, 370), (5, 46, 0, 41, 371), (6, 144, 0, 2, 375), (6, 148, 0, 74, 379), (6, 208, 0, 19, 383), (1, 33, 0, 18, 387), (1, 29, 0, 17, 393), (1, 36, 7, 0, 397), (8, 40, 0, 49, 400), (6, 114, 0, 1, 404), (8, 44, 0, 50, 408), (6, 118, 0, 69, 412), (8, 48, 0, 51, 416), (6, 130, 0, 70, 420), (6, 133, 0, 72, 424), (6, 265, 0, 34, 428), (4, 48, 0, 33, 432), (4, 58, 0, 15, 433), (8, 53, 0, 52, 434), (8, 57, 0, 53, 438), (8, 61, 0, 54, 442), (8, 65, 0, 55, 446), (6, 155, 0, 28, 450), (8, 69, 0, 56, 454), (6, 158, 0, 3, 458), (6, 164, 0, 35, 459), (6, 170, 0, 10, 463), (8, 73, 0, 57, 467), (8, 77, 0, 58, 471), (6, 177, 0, 23, 475), (8, 81, 0, 59, 479), (6, 180, 0, 24, 483), (6, 189, 0, 73, 487), (8, 85, 0, 60, 491), (6, 192, 0, 5, 495), (8, 89, 0, 61, 496), (6, 201, 0, 78, 500), (6, 277, 0, 77, 504), (6, 234, 0, 6, 508), (6, 204, 0, 79, 509), (8, 93, 0, 62, 513), (6, 218, 0, 80, 517), (6, 281, 0, 8, 521), (6, 224, 0, 81, 525), (6, 284, 0, 82, 529), (6, 287, 0, 9, 533), (6, 290, 0, 11, 537), (6, 228, 0, 21, 541), (6, 231, 0, 83, 545), (8, 98, 0, 63, 549), (8, 102, 0, 64, 553), (6, 240, 0, 27, 557), (8, 106, 0, 65, 561), (6, 246, 0, 25, 565), (6, 249, 0, 71, 569), (8, 110, 0, 66, 573), (6, 259, 0, 65, 579), (6, 262, 0, 56, 580), (8, 12, 2, 84, 583), (7, 1, 5, 0, 586), (8, 17, 0, 89, 684), (7, 90, 1, 85, 688), (8, 22, 0, 90, 691), (7, 97, 0, 86, 695), (8, 27, 0, 91, 699), (8, 31, 0, 95, 703), (7, 112, 1, 87, 707), (7, 115, 0, 94, 710), (7, 108, 0, 93, 714), (7, 104, 0, 92, 718), (8, 35, 0, 96, 722), (8, 43, 0, 100, 726), (8, 47, 0, 101, 730), (7, 125, 0, 88, 734), (8, 52, 0, 107, 738), (7, 139, 0, 106, 742), (7, 143, 0, 104, 746), (7, 128, 0, 102, 750), (7, 132, 0, 103, 754), (7, 146, 0, 105, 758), (7, 135, 0, 98, 762), (7, 118, 0, 97, 766), (8, 56, 0, 109, 770), (7, 150, 0, 108, 774), (8, 60, 0, 110, 778), (8, 64, 0, 111, 782), (8, 105, 0, 112, 786), (8, 68, 0, 113, 790), (7, 157, 0, 99, 794), (8, 39, 0, 116, 798), (7, 160, 0, 114, 802), (7, 164, 0, 115, 806), (8, 72, 0, 119, 810), (7, 167, 0, 117, 814), (7, 170, 0, 118, 818), (8, 76, 0, 120, 822), (8, 80, 0, 121, 826), (8, 84, 0, 122, 830), (8, 88, 0, 123, 834), (8, 92, 0, 125, 838), (7, 176, 0, 124, 842), (8, 97, 0, 127, 846), (7, 182, 0, 126, 850), (8, 101, 0, 128, 854), (8, 109, 0, 130, 858), (7, 185, 0, 129, 862), (8, 114, 0, 131, 866), (7, 192, 0, 130, 872), (7, 195, 0, 119, 873)]
def zclT : List (Nat × Nat × Nat × Nat × Nat) := [(8, 7, 6, 50, 51), (6, 7, 4, 58, 59), (4, 9, 1, 64, 66), (6, 16, 5, 116, 117), (6, 25, 0, 133, 176), (6, 31, 2, 135, 136), (6, 38, 3, 159, 160), (8, 10, 7, 581, 582)]
def zlcT : List (Nat × Nat × Int64 × Nat) := [(6, 255, 17, 577), (6, 257, 31, 578), (7, 188, 17, 870), (7, 190, 31, 871)]
def zfl (a n : Nat) : Option (Nat × Nat) := (zflT.find? (fun e => e.1 == a && e.2.1 == n)).map (fun e => (e.2.2.1, e.2.2.2.1))
def zml (a n : Nat) : Option (Nat × Nat) := (zmlT.find? (fun e => e.1 == a && e.2.1 == n)).map (fun e => (e.2.2.1, e.2.2.2.1))
def zcl (a n : Nat) : Option Nat := (zclT.find? (fun e => e.1 == a && e.2.1 == n)).map (fun e => e.2.2.1)
def zlc (a n : Nat) : Option Int64 := (zlcT.find? (fun e => e.1 == a && e.2.1 == n)).map (fun e => e.2.2.1)
def zft (j pc : Nat) : Option (Instr × Nat) := match decode (zc j) pc with
  | .ok x => some x
  | .error _ => none
theorem zft_ok {j pc : Nat} {i : Instr} {len : Nat} (h : zft j pc = some (i, len)) : decode (zc j) pc = .ok (i, len) := by
  unfold zft at h
  split at h
  · next x e => rw [e]; cases h; rfl
  · cases h
def zW : List Cond := lw_tbl.filter goodWord
theorem zW_at {w : Cond} (i : Nat) (h : lw_tbl[i]? = some w) (g : goodWord w = true) : w ∈ zW := List.mem_filter.mpr ⟨List.mem_of_getElem? h, g⟩
theorem zW_good {w : Cond} (h : w ∈ zW) : w ∈ lw_tbl ∧ goodWord w = true := List.mem_filter.mp h
def zgw (i : Nat) (w : Cond) : Bool := decide (lw_tbl[i]? = some w) && goodWord w
theorem zgw_in {i : Nat} {w : Cond} (h : zgw i w = true) : w ∈ zW := by
  simp only [zgw, Bool.and_eq_true, decide_eq_true_eq] at h
  exact zW_at i h.1 h.2

set_option maxRecDepth 20000 in
theorem zcw0 : ∀ q ∈ zmT0, Cond.code q.1 q.2.1 q.2.2.1 q.2.2.2.1 ∈ lw_tbl := List.forall_mem_cons.mpr ⟨List.mem_of_getElem? (i := 179) rfl, List.forall_mem_cons.mpr ⟨List.mem_of_getElem? (i := 407) rfl, List.forall_mem_cons.mpr ⟨List.mem_of_getElem? (i := 378) rfl, List.forall_mem_cons.mpr ⟨List.mem_of_getElem? (i := 332) rfl, List.forall_mem_cons.mpr ⟨List.mem_of_getElem? (i := 327) rfl, List.forall_mem_cons.mpr ⟨List.mem_of_getElem? (i := 323) rfl, List.forall_mem_cons.mpr ⟨List.mem_of_getElem? (i := 319) rfl, List.forall_mem_cons.mpr ⟨List.mem_of_getElem? (i := 315) rfl, List.forall_mem_cons.mpr ⟨List.mem_of_getElem? (i := 524) rfl, List.forall_mem_cons.mpr ⟨List.mem_of_getElem? (i := 536) rfl, List.forall_mem_cons.mpr ⟨List.mem_of_getElem? (i := 466) rfl, List.forall_mem_cons.mpr ⟨List.mem_of_getElem? (i := 540) rfl, List.forall_mem_cons.mpr ⟨List.mem_of_getElem? (i := 69) rfl, List.forall_mem_cons.mpr ⟨List.mem_of_getElem? (i := 267) rfl, List.forall_mem_cons.mpr ⟨List.mem_of_getElem? (i := 299) rfl, List.forall_mem_cons.mpr ⟨List.mem_of_getElem? (i := 364) rfl, List.forall_mem_cons.mpr ⟨List.mem_of_getElem? (i := 311) rfl, List.forall_mem_cons.mpr ⟨List.mem_of_getElem? (i := 396) rfl, List.forall_mem_cons.mpr ⟨List.mem_of_getElem? (i := 390) rfl, List.forall_mem_cons.mpr ⟨List.mem_of_getElem? (i := 386) rfl, List.forall_mem_cons.mpr ⟨List.mem_of_getElem? (i := 347) rfl, List.forall_mem_cons.mpr ⟨List.mem_of_getElem? (i := 544) rfl, fun _ h => absurd h List.not_mem_nil⟩⟩⟩⟩⟩⟩⟩⟩⟩⟩⟩⟩⟩⟩⟩⟩⟩⟩⟩⟩⟩⟩
set_option maxRecDepth 20000 in
theorem zcw1 : ∀ q ∈ zmT1, Cond.code q.1 q.2.1 q.2.2.1 q.2.2.2.1 ∈ lw_tbl := List.forall_mem_cons.mpr ⟨List.mem_of_getElem? (i := 139) rfl, List.forall_mem_cons.mpr ⟨List.mem_of_getElem? (i := 478) rfl, List.forall_mem_cons.mpr ⟨List.mem_of_getElem? (i := 486) rfl, List.forall_mem_cons.mpr ⟨List.mem_of_getElem? (i := 568) rfl, List.forall_mem_cons.mpr ⟨List.mem_of_getElem? (i := 163) rfl, List.forall_mem_cons.mpr ⟨List.mem_of_getElem? (i := 560) rfl, List.forall_mem_cons.mpr ⟨List.mem_of_getElem? (i := 453) rfl, List.forall_mem_cons.mpr ⟨List.mem_of_getElem? (i := 62) rfl, List.forall_mem_cons.mpr ⟨List.mem_of_getElem? (i := 275) rfl, List.forall_mem_cons.mpr ⟨List.mem_of_getElem? (i := 263) rfl, List.forall_mem_cons.mpr ⟨List.mem_of_getElem? (i := 284) rfl, List.forall_mem_cons.mpr ⟨List.mem_of_getElem? (i := 280) rfl, List.forall_mem_cons.mpr ⟨List.mem_of_getElem? (i := 431) rfl, List.forall_mem_cons.mpr ⟨List.mem_of_getElem? (i := 462) rfl, List.forall_mem_cons.mpr ⟨List.mem_of_getElem? (i := 120) rfl, List.forall_mem_cons.mpr ⟨List.mem_of_getElem? (i := 351) rfl, List.forall_mem_cons.mpr ⟨List.mem_of_getElem? (i := 356) rfl, List.forall_mem_cons.mpr ⟨List.mem_of_getElem? (i := 360) rfl, List.forall_mem_cons.mpr ⟨List.mem_of_getElem? (i := 369) rfl, List.forall_mem_cons.mpr ⟨List.mem_of_getElem? (i := 374) rfl, List.forall_mem_cons.mpr ⟨List.mem_of_getElem? (i := 54) rfl, List.forall_mem_cons.mpr ⟨List.mem_of_getElem? (i := 256) rfl, fun _ h => absurd h List.not_mem_nil⟩⟩⟩⟩⟩⟩⟩⟩⟩⟩⟩⟩⟩⟩⟩⟩⟩⟩⟩⟩⟩⟩
set_option maxRecDepth 20000 in
theorem zcw2 : ∀ q ∈ zmT2, Cond.code q.1 q.2.1 q.2.2.1 q.2.2.2.1 ∈ lw_tbl := List.forall_mem_cons.mpr ⟨List.mem_of_getElem? (i := 271) rfl, List.forall_mem_cons.mpr ⟨List.mem_of_getElem? (i := 288) rfl, List.forall_mem_cons.mpr ⟨List.mem_of_getElem? (i := 292) rfl, List.forall_mem_cons.mpr ⟨List.mem_of_getElem? (i := 303) rfl, List.forall_mem_cons.mpr ⟨List.mem_of_getElem? (i := 307) rfl, List.forall_mem_cons.mpr ⟨List.mem_of_getElem? (i := 403) rfl, List.forall_mem_cons.mpr ⟨List.mem_of_getElem? (i := 411) rfl, List.forall_mem_cons.mpr ⟨List.mem_of_getElem? (i := 419) rfl, List.forall_mem_cons.mpr ⟨List.mem_of_getElem? (i := 437) rfl, List.forall_mem_cons.mpr ⟨List.mem_of_getElem? (i := 441) rfl, List.forall_mem_cons.mpr ⟨List.mem_of_getElem? (i := 445) rfl, List.forall_mem_cons.mpr ⟨List.mem_of_getElem? (i := 449) rfl, List.forall_mem_cons.mpr ⟨List.mem_of_getElem? (i := 457) rfl, List.forall_mem_cons.mpr ⟨List.mem_of_getElem? (i := 470) rfl, List.forall_mem_cons.mpr ⟨List.mem_of_getElem? (i := 474) rfl, List.forall_mem_cons.mpr ⟨List.mem_of_getElem? (i := 482) rfl, List.forall_mem_cons.mpr ⟨List.mem_of_getElem? (i := 494) rfl, List.forall_mem_cons.mpr ⟨List.mem_of_getElem? (i := 499) rfl, List.forall_mem_cons.mpr ⟨List.mem_of_getElem? (i := 516) rfl, List.forall_mem_cons.mpr ⟨List.mem_of_getElem? (i := 552) rfl, List.forall_mem_cons.mpr ⟨List.mem_of_getElem? (i := 556) rfl, List.forall_mem_cons.mpr ⟨List.mem_of_getElem? (i := 564) rfl, fun _ h => absurd h List.not_mem_nil⟩⟩⟩⟩⟩⟩⟩⟩⟩⟩⟩⟩⟩⟩⟩⟩⟩⟩⟩⟩⟩⟩
set_option maxRecDepth 20000 in
theorem zcw3 : ∀ q ∈ zmT3, Cond.code q.1 q.2.1 q.2.2.1 q.2.2.2.1 ∈ lw_tbl := List.forall_mem_cons.mpr ⟨List.mem_of_getElem? (i := 576) rfl, List.forall_mem_cons.mpr ⟨List.mem_of_getElem? (i := 259) rfl, List.forall_mem_cons.mpr ⟨List.mem_of_getElem? (i := 295) rfl, List.forall_mem_cons.mpr ⟨List.mem_of_getElem? (i := 415) rfl, List.forall_mem_cons.mpr ⟨List.mem_of_getElem? (i := 423) rfl, List.forall_mem_cons.mpr ⟨List.mem_of_getElem? (i := 572) rfl, List.forall_mem_cons.mpr ⟨List.mem_of_getElem? (i := 427) rfl, List.forall_mem_cons.mpr ⟨List.mem_of_getElem? (i := 490) rfl, List.forall_mem_cons.mpr ⟨List.mem_of_getElem? (i := 382) rfl, List.forall_mem_cons.mpr ⟨List.mem_of_getElem? (i := 343) rfl, List.forall_mem_cons.mpr ⟨List.mem_of_getElem? (i := 336) rfl, List.forall_mem_cons.mpr ⟨List.mem_of_getElem? (i := 507) rfl, List.forall_mem_cons.mpr ⟨List.mem_of_getElem? (i := 503) rfl, List.forall_mem_cons.mpr ⟨List.mem_of_getElem? (i := 512) rfl, List.forall_mem_cons.mpr ⟨List.mem_of_getElem? (i := 520) rfl, List.forall_mem_cons.mpr ⟨List.mem_of_getElem? (i := 528) rfl, List.forall_mem_cons.mpr ⟨List.mem_of_getElem? (i := 532) rfl, List.forall_mem_cons.mpr ⟨List.mem_of_getElem? (i := 548) rfl, List.forall_mem_cons.mpr ⟨List.mem_of_getElem? (i := 585) rfl, List.forall_mem_cons.mpr ⟨List.mem_of_getElem? (i := 690) rfl, List.forall_mem_cons.mpr ⟨List.mem_of_getElem? (i := 698) rfl, List.forall_mem_cons.mpr ⟨List.mem_of_getElem? (i := 709) rfl, fun _ h => absurd h List.not_mem_nil⟩⟩⟩⟩⟩⟩⟩⟩⟩⟩⟩⟩⟩⟩⟩⟩⟩⟩⟩⟩⟩⟩
set_option maxRecDepth 20000 in
theorem zcw4 : ∀ q ∈ zmT4, Cond.code q.1 q.2.1 q.2.2.1 q.2.2.2.1 ∈ lw_tbl := List.forall_mem_cons.mpr ⟨List.mem_of_getElem? (i := 737) rfl, List.forall_mem_cons.mpr ⟨List.mem_of_getElem? (i := 687) rfl, List.forall_mem_cons.mpr ⟨List.mem_of_getElem? (i := 694) rfl, List.forall_mem_cons.mpr ⟨List.mem_of_getElem? (i := 702) rfl, List.forall_mem_cons.mpr ⟨List.mem_of_getElem? (i := 721) rfl, List.forall_mem_cons.mpr ⟨List.mem_of_getElem? (i := 717) rfl, List.forall_mem_cons.mpr ⟨List.mem_of_getElem? (i := 713) rfl, List.forall_mem_cons.mpr ⟨List.mem_of_getElem? (i := 706) rfl, List.forall_mem_cons.mpr ⟨List.mem_of_getElem? (i := 725) rfl, List.forall_mem_cons.mpr ⟨List.mem_of_getElem? (i := 769) rfl, List.forall_mem_cons.mpr ⟨List.mem_of_getElem? (i := 765) rfl, List.forall_mem_cons.mpr ⟨List.mem_of_getElem? (i := 797) rfl, List.forall_mem_cons.mpr ⟨List.mem_of_getElem? (i := 729) rfl, List.forall_mem_cons.mpr ⟨List.mem_of_getElem? (i := 733) rfl, List.forall_mem_cons.mpr ⟨List.mem_of_getElem? (i := 753) rfl, List.forall_mem_cons.mpr ⟨List.mem_of_getElem? (i := 757) rfl, List.forall_mem_cons.mpr ⟨List.mem_of_getElem? (i := 749) rfl, List.forall_mem_cons.mpr ⟨List.mem_of_getElem? (i := 761) rfl, List.forall_mem_cons.mpr ⟨List.mem_of_getElem? (i := 745) rfl, List.forall_mem_cons.mpr ⟨List.mem_of_getElem? (i := 741) rfl, List.forall_mem_cons.mpr ⟨List.mem_of_getElem? (i := 777) rfl, List.forall_mem_cons.mpr ⟨List.mem_of_getElem? (i := 773) rfl, fun _ h => absurd h List.not_mem_nil⟩⟩⟩⟩⟩⟩⟩⟩⟩⟩⟩⟩⟩⟩⟩⟩⟩⟩⟩⟩⟩⟩
set_option maxRecDepth 20000 in
theorem zcw5 : ∀ q ∈ zmT5, Cond.code q.1 q.2.1 q.2.2.1 q.2.2.2.1 ∈ lw_tbl := List.forall_mem_cons.mpr ⟨List.mem_of_getElem? (i := 781) rfl, List.forall_mem_cons.mpr ⟨List.mem_of_getElem? (i := 785) rfl, List.forall_mem_cons.mpr ⟨List.mem_of_getElem? (i := 789) rfl, List.forall_mem_cons.mpr ⟨List.mem_of_getElem? (i := 793) rfl, List.forall_mem_cons.mpr ⟨List.mem_of_getElem? (i := 805) rfl, List.forall_mem_cons.mpr ⟨List.mem_of_getElem? (i := 809) rfl, List.forall_mem_cons.mpr ⟨List.mem_of_getElem? (i := 801) rfl, List.forall_mem_cons.mpr ⟨List.mem_of_getElem? (i := 817) rfl, List.forall_mem_cons.mpr ⟨List.mem_of_getElem? (i := 821) rfl, List.forall_mem_cons.mpr ⟨List.mem_of_getElem? (i := 813) rfl, List.forall_mem_cons.mpr ⟨List.mem_of_getElem? (i := 825) rfl, List.forall_mem_cons.mpr ⟨List.mem_of_getElem? (i := 829) rfl, List.forall_mem_cons.mpr ⟨List.mem_of_getElem? (i := 833) rfl, List.forall_mem_cons.mpr ⟨List.mem_of_getElem? (i := 837) rfl, List.forall_mem_cons.mpr ⟨List.mem_of_getElem? (i := 845) rfl, List.forall_mem_cons.mpr ⟨List.mem_of_getElem? (i := 841) rfl, List.forall_mem_cons.mpr ⟨List.mem_of_getElem? (i := 853) rfl, List.forall_mem_cons.mpr ⟨List.mem_of_getElem? (i := 849) rfl, List.forall_mem_cons.mpr ⟨List.mem_of_getElem? (i := 857) rfl, List.forall_mem_cons.mpr ⟨List.mem_of_getElem? (i := 865) rfl, List.forall_mem_cons.mpr ⟨List.mem_of_getElem? (i := 861) rfl, List.forall_mem_cons.mpr ⟨List.mem_of_getElem? (i := 869) rfl, fun _ h => absurd h List.not_mem_nil⟩⟩⟩⟩⟩⟩⟩⟩⟩⟩⟩⟩⟩⟩⟩⟩⟩⟩⟩⟩⟩⟩
theorem zcw : ∀ q ∈ zmT, Cond.code q.1 q.2.1 q.2.2.1 q.2.2.2.1 ∈ lw_tbl := List.forall_mem_append.mpr ⟨zcw0, List.forall_mem_append.mpr ⟨zcw1, List.forall_mem_append.mpr ⟨zcw2, List.forall_mem_append.mpr ⟨zcw3, List.forall_mem_append.mpr ⟨zcw4, zcw5⟩⟩⟩⟩⟩
theorem zm_at {j : Nat} (h : j < 132) : zm j ∈ zmT := by
  have h1 : j < zmT.length := h
  unfold zm
  rw [List.getD_eq_getElem?_getD, List.getElem?_eq_getElem h1]
  exact List.getElem_mem h1
set_option maxRecDepth 100000 in
theorem zflT_ok : zflT.all (fun e => decide (e.2.2.2.1 < zN e.2.2.1) && decide (e.2.2.1 < 8) && zgw e.2.2.2.2 (.fieldLink (zRn e.1) e.2.1 (zRn e.2.2.1) (zT e.2.2.1 e.2.2.2.1).2.1 (zT e.2.2.1 e.2.2.2.1).2.2.1)) = true := by decide +kernel
set_option maxRecDepth 100000 in
theorem zclT_ok : zclT.all (fun e => decide (e.2.2.1 < 8) && zgw e.2.2.2.1 (.classLink (zRn e.1) e.2.1 (zRn e.2.2.1)) && zgw e.2.2.2.2 (.instantiable (zRn e.2.2.1) (zN e.2.2.1))) = true := by decide +kernel
set_option maxRecDepth 100000 in
theorem zlcT_ok : zlcT.all (fun e => zgw e.2.2.2 (.constantLong (zRn e.1) e.2.1 e.2.2.1)) = true := by decide +kernel
