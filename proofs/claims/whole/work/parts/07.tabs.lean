/-! what the tables of the claim say of the pure machine's tables: by places, decided -/
def ownN (c : Nat) : String := [RX0, RX1, RX2, RX3, RX4, RX5, RX6, RJ6, RJ9, RJ0, RJ1, RJ3, RJ2, RL].getD c ""
def txT : List String := ["yard", "sea", "street", "sky", "steeple", "garden", "", "trade", "money", "fine", "curtain"]
def fPl : List Nat := [91, 93, 96, 99, 101, 104, 106, 108, 162, 164, 166, 135, 136, 138, 139, 140, 141, 95, 109, 103, 98, 176, 177, 178, 179, 180, 181, 182, 183, 184, 97, 94, 100, 102, 105, 107, 110, 92, 137, 165, 167, 163, 712, 713, 714, 716, 717, 724, 725, 726, 718, 720, 721, 722, 719, 723, 715]
def aPl : List Nat := [373, 658]
def xPl : List Nat := [354, 347, 414, 532, 449]
def xSn : Nat := 348
def xCn : Nat := 349
def xSx : Nat := 415
def xCx : Nat := 416
def xSb : Nat := 355
def xCb : Nat := 356
def xI : Nat := 70
def aPn : Nat := 375
def aPs : Nat := 374
def aPi : Nat := 71
def cPl : List Nat := [346, 214, 219, 773, 915, 768, 810, 855, 887, 1057, 1066, 387, 388, 389]
def clPl : List Nat := [663, 1118]
def lPl : List (List Nat) := [[111, 113, 115, 117, 119, 121, 123, 125], [111, 113, 115, 117, 119, 121, 123, 125], [111, 113, 115, 117, 119, 121, 123, 125], [168, 170, 172], [142, 144, 146, 148, 150, 152], [185, 187, 189, 191, 193, 195, 197, 199, 201], [727, 729, 731, 733, 735, 737, 739, 741, 743, 745, 747, 749, 751, 753, 755]]
def gPa : Nat := 323
def gPn : Nat := 1024
def gPc : Nat := 563
def gPs : Nat := 579
def sPv : Nat := 1119
def sPc : Nat := 1120
def WT : List Cond := lw_tbl.filter goodWord
def inT (w : Cond) (i : Nat) : Bool := decide (lw_tbl[i]? = some w) && goodWord w
theorem inT_mem {w : Cond} {i : Nat} (h : inT w i = true) : w ∈ WT := by
  simp only [inT, Bool.and_eq_true, decide_eq_true_eq] at h
  exact List.mem_filter.mpr ⟨List.mem_of_getElem? h.1, h.2⟩
theorem WT_good {ws : List Cond} (h : ∀ w ∈ ws, w ∈ WT) : GoodIn WT ws := fun w hw => ⟨h w hw, good_of_word (List.mem_filter.mp (h w hw)).2⟩
def dC7 : vw_C := (RX1, TX1, 8)
theorem zip_all {α β : Type} {l : List α} {m : List β} {f : α × β → Bool} (hl : l.length ≤ m.length) (h : (l.zip m).all f = true) {a : α} (ha : a ∈ l) : ∃ b : β, f (a, b) = true := by
  obtain ⟨i, hi, hi2⟩ := List.mem_iff_getElem.mp ha
  have hm : i < m.length := by omega
  refine ⟨m[i], ?_⟩
  have hz : (a, m[i]) ∈ l.zip m := by
    refine List.mem_iff_getElem.mpr ⟨i, by rw [List.length_zip]; omega, ?_⟩
    rw [List.getElem_zip, hi2]
  exact List.all_eq_true.mp h _ hz
def mChk (q : (Nat × Nat × (Nat × Nat × mI)) × (Nat × Nat × Nat × Nat × Nat)) : Bool :=
  let M := q.1.2.2.2.2
  inT (.methodLink (ownN q.1.1) q.1.2.1 M.y) q.2.1 && (inT (.code M.y M.b M.n M.r) q.2.2.1 && (inT (.initialized M.y.cls) q.2.2.2.1 && (decide (M.y.cls ≠ "java/lang/invoke/MethodHandle") && (decide (M.y.cls ≠ "java/lang/invoke/VarHandle") && (decide ((parseMethodDescriptor M.y.desc).map (fun d => d.parameters.length) = some q.1.2.2.2.1) && (decide (M.y.cls = ownN M.c) && (plainName M.y.cls && decide (M.c ≠ 13) &&
  (match q.1.2.2.1 with
    | 0 => inT (.static M.y) q.2.2.2.2.1
    | _ => inT (.instanceMethod M.y) q.2.2.2.2.1 && (inT (.selects M.y.cls M.y M.y) q.2.2.2.2.2 && (decide (M.c = 9) || (decide (M.c < 7) && decide ((cls7.getD M.c dC7).1 = M.y.cls))))))))))))
def mT_0 : List (Nat × Nat × (Nat × Nat × mI)) := [(1, 43, (1, 1, mX1_hasFrame)), (1, 47, (0, 3, mX2_worth)), (1, 53, (1, 1, mX1_worthOf)), (1, 57, (0, 3, mX2_soldFor)), (1, 60, (1, 1, mX1_worthOutOf)), (1, 63, (1, 0, mX1_framesAtHome)), (1, 67, (0, 1, mJ6_bitCount_0f7a4)), (1, 72, (1, 1, mX1_soldFor)), (1, 74, (1, 2, mX1_dueFromFirst)), (1, 78, (1, 3, mX1_pay)), (1, 82, (1, 2, mX1_swapViews)), (1, 95, (0, 3, mX2_fineBehind))]
def mP_0 : List (Nat × Nat × Nat × Nat × Nat) := [(291, 277, 64, 275, 276), (244, 246, 68, 245, 0), (240, 243, 64, 241, 242), (304, 306, 68, 305, 0), (236, 239, 64, 237, 238), (380, 383, 64, 381, 382), (384, 386, 72, 385, 0), (337, 303, 64, 301, 302), (333, 336, 64, 335, 1), (342, 345, 64, 344, 2), (350, 353, 64, 351, 352), (410, 412, 68, 411, 0)]
set_option maxRecDepth 100000 in
theorem mC_0 : (mT_0.zip mP_0).all mChk = true := by decide +kernel
def mT_1 : List (Nat × Nat × (Nat × Nat × mI)) := [(2, 9, (0, 1, mX2_isKind)), (2, 31, (0, 1, mX2_seaLight)), (2, 35, (0, 1, mX2_streetLife)), (2, 38, (0, 1, mX0_hourOfDay)), (2, 43, (0, 1, mX0_isSpring)), (2, 46, (0, 2, mX2_wears)), (2, 55, (0, 3, mX2_worth)), (2, 59, (0, 3, mX2_fineBehind)), (4, 31, (1, 0, mX4_advance)), (4, 34, (1, 1, mX4_readItem)), (4, 38, (1, 0, mX4_kindHere)), (4, 42, (0, 1, mX2_isKind))]
def mP_1 : List (Nat × Nat × Nat × Nat × Nat) := [(322, 265, 68, 264, 0), (247, 249, 68, 248, 0), (253, 255, 68, 254, 0), (250, 252, 69, 251, 0), (256, 258, 69, 257, 0), (413, 299, 68, 298, 0), (443, 246, 68, 245, 0), (444, 412, 68, 411, 0), (514, 517, 65, 516, 6), (533, 536, 65, 535, 9), (537, 540, 65, 539, 10), (603, 265, 68, 264, 0)]
set_option maxRecDepth 100000 in
theorem mC_1 : (mT_1.zip mP_1).all mChk = true := by decide +kernel
def mT_2 : List (Nat × Nat × (Nat × Nat × mI)) := [(4, 48, (1, 2, mX4_readFrame)), (4, 54, (1, 1, mX4_isWord)), (4, 58, (1, 1, mX4_readTrade)), (4, 63, (1, 1, mX4_readMoney)), (4, 71, (1, 1, mX4_isNumberUpTo)), (4, 74, (1, 2, mX1_addFrame)), (4, 86, (1, 2, mX1_swapViews)), (4, 92, (0, 1, mX2_nameOf)), (4, 96, (1, 0, mJ0_length_8abf5)), (4, 100, (1, 1, mJ0_charAt_5068e)), (4, 104, (0, 1, mX4_isLetter)), (4, 107, (1, 0, mX4_passWord))]
def mP_2 : List (Nat × Nat × Nat × Nat × Nat) := [(604, 607, 65, 606, 12), (551, 554, 65, 553, 11), (616, 619, 65, 618, 14), (622, 625, 65, 624, 15), (608, 611, 65, 610, 13), (612, 269, 64, 267, 268), (620, 353, 64, 351, 352), (541, 543, 68, 542, 0), (555, 558, 73, 556, 557), (565, 568, 73, 566, 567), (518, 520, 65, 519, 0), (521, 524, 65, 523, 7)]
set_option maxRecDepth 100000 in
theorem mC_2 : (mT_2.zip mP_2).all mChk = true := by decide +kernel
def mT_3 : List (Nat × Nat × (Nat × Nat × mI)) := [(4, 110, (0, 1, mX4_isDigit)), (4, 113, (1, 0, mX4_passNumber)), (5, 50, (0, 1, mX5_isOwner)), (5, 55, (0, 3, mX5_isWithin)), (5, 59, (1, 1, mX5_tell)), (5, 66, (1, 1, mX1_framesOwnedBy)), (5, 69, (1, 1, mX1_viewsOwnedBy)), (5, 72, (1, 1, mX1_incomeOf)), (5, 75, (0, 1, mX2_isKind)), (5, 84, (1, 2, mX1_addFrame)), (5, 88, (1, 1, mX1_hasFrame)), (5, 100, (1, 1, mX1_worthOutOf))]
def mP_3 : List (Nat × Nat × Nat × Nat × Nat) := [(525, 527, 65, 526, 0), (528, 531, 65, 530, 8), (208, 210, 63, 209, 0), (211, 213, 63, 212, 0), (215, 218, 63, 217, 0), (224, 227, 64, 225, 226), (228, 231, 64, 229, 230), (232, 235, 64, 233, 234), (263, 265, 68, 264, 0), (266, 269, 64, 267, 268), (274, 277, 64, 275, 276), (278, 239, 64, 237, 238)]
set_option maxRecDepth 100000 in
theorem mC_3 : (mT_3.zip mP_3).all mChk = true := by decide +kernel
def mT_4 : List (Nat × Nat × (Nat × Nat × mI)) := [(5, 103, (1, 1, mX1_hasView)), (5, 112, (1, 1, mX1_frameShowing)), (5, 115, (1, 1, mX1_worthOf)), (5, 121, (0, 2, mX2_wears)), (5, 124, (1, 1, mX1_soldFor)), (5, 127, (0, 2, mX2_isOrIsUnder)), (5, 131, (1, 2, mX1_canExchange)), (5, 134, (1, 2, mX1_exchange)), (5, 137, (1, 0, mX1_shiftViews)), (5, 140, (1, 1, mX1_become)), (5, 144, (1, 0, mX1_viewsAreHome)), (5, 148, (1, 0, mX1_exchangesTillHome))]
def mP_4 : List (Nat × Nat × Nat × Nat × Nat) := [(287, 290, 64, 288, 289), (292, 295, 64, 293, 294), (296, 243, 64, 241, 242), (297, 299, 68, 298, 0), (300, 303, 64, 301, 302), (319, 321, 68, 320, 0), (329, 332, 64, 330, 331), (338, 341, 64, 339, 340), (361, 364, 64, 362, 363), (369, 372, 64, 370, 371), (376, 379, 64, 377, 378), (398, 401, 64, 399, 400)]
set_option maxRecDepth 100000 in
theorem mC_4 : (mT_4.zip mP_4).all mChk = true := by decide +kernel
def mT_5 : List (Nat × Nat × (Nat × Nat × mI)) := [(5, 152, (1, 0, mX1_passHour)), (5, 155, (1, 0, mX1_moneyInAll)), (5, 158, (0, 1, mX0_hourOfDay)), (5, 163, (0, 1, mX0_isSpring)), (5, 166, (1, 0, mX1_framesAtHome)), (5, 169, (1, 0, mX1_fineInAll)), (5, 172, (1, 1, mX5_foresee)), (5, 176, (1, 2, mX5_moneyForeseen)), (5, 180, (0, 4, mX2_worthInAll)), (5, 184, (1, 1, mX5_costOfDrawing)), (5, 187, (1, 1, mX4_hasRoomFor)), (5, 190, (1, 2, mX4_append))]
def mP_5 : List (Nat × Nat × Nat × Nat × Nat) := [(406, 409, 64, 407, 408), (417, 420, 64, 418, 419), (425, 252, 69, 251, 0), (426, 258, 69, 257, 0), (427, 383, 64, 381, 382), (428, 431, 64, 429, 430), (436, 439, 63, 438, 3), (445, 448, 63, 447, 4), (440, 442, 68, 441, 0), (478, 481, 63, 480, 5), (490, 493, 65, 491, 492), (494, 497, 65, 495, 496)]
set_option maxRecDepth 100000 in
theorem mC_5 : (mT_5.zip mP_5).all mChk = true := by decide +kernel
def mT_6 : List (Nat × Nat × (Nat × Nat × mI)) := [(5, 197, (1, 0, mX4_clear)), (5, 200, (1, 1, mX4_readOnto)), (5, 204, (0, 1, mX5_isSheet)), (5, 207, (1, 2, mX3_begin)), (5, 213, (1, 0, mX3_isMissing)), (5, 220, (1, 2, mX3_put)), (5, 227, (1, 2, mX3_hasRange)), (5, 238, (1, 3, mX5_foreseeWithout)), (5, 241, (1, 4, mX5_fits)), (5, 245, (1, 0, mX1_curtainsDrawn)), (5, 254, (0, 3, mX2_worth)), (5, 258, (0, 3, mX2_fineBehind))]
def mP_6 : List (Nat × Nat × Nat × Nat × Nat) := [(502, 505, 65, 503, 504), (510, 513, 65, 511, 512), (631, 633, 63, 632, 0), (634, 637, 66, 635, 636), (642, 645, 66, 643, 644), (646, 649, 66, 647, 648), (654, 657, 66, 655, 656), (672, 675, 63, 674, 16), (676, 679, 63, 678, 17), (698, 701, 64, 699, 700), (680, 246, 68, 245, 0), (681, 412, 68, 411, 0)]
set_option maxRecDepth 100000 in
theorem mC_6 : (mT_6.zip mP_6).all mChk = true := by decide +kernel
def mT_7 : List (Nat × Nat × (Nat × Nat × mI)) := [(6, 37, (1, 1, mX6_finds)), (6, 41, (0, 3, mX6_in)), (6, 45, (1, 0, mX6_clock)), (6, 49, (1, 2, mX6_it)), (6, 53, (1, 0, mX6_isSpring)), (6, 57, (1, 2, mX6_about)), (6, 60, (1, 1, mX6_worth)), (6, 63, (0, 1, mX6_isOwner)), (6, 68, (1, 2, mX6_becomes)), (6, 71, (1, 1, mX6_worthOut)), (6, 75, (1, 4, mX6_comesAs)), (6, 79, (1, 1, mX6_isFrame))]
def mP_7 : List (Nat × Nat × Nat × Nat × Nat) := [(774, 777, 67, 776, 19), (765, 767, 67, 766, 0), (794, 797, 67, 796, 23), (798, 801, 67, 800, 24), (802, 805, 67, 804, 25), (782, 785, 67, 784, 20), (790, 793, 67, 792, 22), (762, 764, 67, 763, 0), (769, 772, 67, 771, 18), (786, 789, 67, 788, 21), (811, 814, 67, 813, 26), (819, 822, 67, 821, 27)]
set_option maxRecDepth 100000 in
theorem mC_7 : (mT_7.zip mP_7).all mChk = true := by decide +kernel
def mT_8 : List (Nat × Nat × (Nat × Nat × mI)) := [(6, 82, (1, 1, mX6_frameWith)), (6, 85, (1, 1, mX6_wears)), (6, 88, (1, 1, mX6_dear)), (6, 92, (0, 3, mX6_held)), (6, 96, (1, 2, mX6_payer)), (6, 99, (1, 2, mX6_price)), (6, 102, (1, 2, mX6_earns)), (6, 106, (1, 2, mX6_changes)), (6, 109, (1, 2, mX6_canTrade)), (6, 113, (1, 2, mX6_trades)), (6, 117, (1, 0, mX6_shiftsOnce)), (6, 120, (1, 0, mX6_thinks))]
def mP_8 : List (Nat × Nat × Nat × Nat × Nat) := [(831, 834, 67, 833, 28), (835, 838, 67, 837, 29), (839, 842, 67, 841, 30), (880, 882, 67, 881, 0), (864, 867, 67, 866, 32), (868, 871, 67, 870, 33), (876, 879, 67, 878, 35), (883, 886, 67, 885, 36), (860, 863, 67, 862, 31), (872, 875, 67, 874, 34), (892, 895, 67, 894, 37), (900, 903, 67, 902, 38)]
set_option maxRecDepth 100000 in
theorem mC_8 : (mT_8.zip mP_8).all mChk = true := by decide +kernel
def mT_9 : List (Nat × Nat × (Nat × Nat × mI)) := [(6, 123, (1, 0, mX6_atHome)), (6, 126, (1, 0, mX6_putsBack)), (6, 129, (1, 0, mX6_goes)), (6, 132, (1, 1, mX6_goesFor)), (6, 136, (1, 0, mX6_allMoney)), (6, 139, (1, 0, mX6_allFine)), (6, 142, (0, 2, mX6_copyAll)), (6, 146, (1, 2, mX6_hasOn)), (6, 149, (1, 1, mX6_orNone)), (6, 152, (1, 2, mX6_worthIn)), (6, 168, (1, 2, mX6_isName)), (6, 171, (1, 3, mX6_isByte))]
def mP_9 : List (Nat × Nat × Nat × Nat × Nat) := [(907, 910, 67, 909, 39), (911, 914, 67, 913, 40), (932, 935, 67, 934, 42), (928, 931, 67, 930, 41), (936, 939, 67, 938, 43), (944, 947, 67, 946, 44), (904, 906, 67, 905, 0), (952, 955, 67, 954, 45), (968, 971, 67, 970, 46), (976, 979, 67, 978, 47), (1020, 1023, 67, 1022, 51), (1012, 1015, 67, 1014, 49)]
set_option maxRecDepth 100000 in
theorem mC_9 : (mT_9.zip mP_9).all mChk = true := by decide +kernel
def mT_10 : List (Nat × Nat × (Nat × Nat × mI)) := [(6, 181, (1, 0, mX6_wordHere)), (6, 188, (1, 0, mX6_reads)), (6, 191, (1, 1, mX6_passes)), (6, 194, (1, 2, mX6_number)), (6, 197, (1, 4, mX6_perhaps)), (6, 200, (1, 0, mX6_frameItem)), (6, 203, (1, 0, mX6_tradeItem)), (6, 206, (1, 0, mX6_item)), (6, 209, (0, 1, mX6_isSheet)), (6, 214, (1, 1, mX6_notThere)), (6, 217, (0, 2, mX6_cutTo)), (6, 221, (1, 5, mX6_notCopied))]
def mP_10 : List (Nat × Nat × Nat × Nat × Nat) := [(1016, 1019, 67, 1018, 50), (1008, 1011, 67, 1010, 48), (1042, 1045, 67, 1044, 56), (1034, 1037, 67, 1036, 54), (1038, 1041, 67, 1040, 55), (1030, 1033, 67, 1032, 53), (1046, 1049, 67, 1048, 57), (1026, 1029, 67, 1028, 52), (1054, 1056, 67, 1055, 0), (1062, 1065, 67, 1064, 58), (1067, 1069, 67, 1068, 0), (1074, 1077, 67, 1076, 59)]
set_option maxRecDepth 100000 in
theorem mC_10 : (mT_10.zip mP_10).all mChk = true := by decide +kernel
def mT_11 : List (Nat × Nat × (Nat × Nat × mI)) := [(6, 225, (1, 2, mX6_isBook)), (6, 231, (1, 0, mX6_drawnOnes)), (9, 335, (1, 0, mJ0_coder_7d493)), (9, 492, (1, 0, mJ0_isLatin1_aae02)), (9, 495, (0, 2, mJ1_charAt_3b067)), (9, 498, (0, 2, mJ2_charAt_3b067)), (9, 1059, (0, 3, mJ3_checkIndex_8e157)), (10, 9, (0, 2, mJ0_checkIndex_df160)), (12, 48, (0, 1, mJ2_length_9d52b)), (12, 67, (0, 2, mJ2_checkIndex_2214a)), (12, 71, (0, 2, mJ2_getChar_3b067)), (12, 414, (0, 2, mJ0_checkIndex_df160))]
def mP_11 : List (Nat × Nat × Nat × Nat × Nat) := [(1090, 1093, 67, 1092, 60), (1110, 1113, 67, 1112, 61), (559, 562, 73, 560, 561), (569, 572, 73, 570, 571), (573, 575, 74, 574, 0), (584, 586, 76, 585, 0), (581, 583, 75, 582, 0), (576, 578, 73, 577, 0), (590, 592, 76, 591, 0), (587, 589, 76, 588, 0), (594, 596, 76, 595, 0), (593, 578, 73, 577, 0)]
set_option maxRecDepth 100000 in
theorem mC_11 : (mT_11.zip mP_11).all mChk = true := by decide +kernel
def mT_12 : List (Nat × Nat × (Nat × Nat × mI)) := [(13, 13, (1, 2, mX5_money)), (13, 17, (1, 2, mX6_money)), (13, 18, (1, 2, mX5_ownerOf)), (13, 21, (1, 2, mX6_ownerOf)), (13, 22, (1, 2, mX5_frame)), (13, 25, (1, 2, mX6_frame)), (13, 26, (1, 2, mX5_frameOf)), (13, 29, (1, 2, mX6_frameOf)), (13, 30, (1, 3, mX5_set)), (13, 34, (1, 3, mX6_set)), (13, 35, (1, 2, mX5_of)), (13, 38, (1, 2, mX6_of))]
def mP_12 : List (Nat × Nat × Nat × Nat × Nat) := [(204, 207, 63, 205, 206), (758, 761, 67, 759, 760), (220, 223, 63, 221, 222), (778, 781, 67, 779, 780), (259, 262, 63, 260, 261), (806, 809, 67, 807, 808), (270, 273, 63, 271, 272), (815, 818, 67, 816, 817), (279, 282, 63, 280, 281), (823, 826, 67, 824, 825), (283, 286, 63, 284, 285), (827, 830, 67, 828, 829)]
set_option maxRecDepth 100000 in
theorem mC_12 : (mT_12.zip mP_12).all mChk = true := by decide +kernel
def mT_13 : List (Nat × Nat × (Nat × Nat × mI)) := [(13, 39, (1, 2, mX5_fine)), (13, 42, (1, 2, mX6_fine)), (13, 43, (1, 2, mX5_turn)), (13, 46, (1, 2, mX6_turn)), (13, 47, (1, 2, mX5_as)), (13, 50, (1, 2, mX6_as)), (13, 51, (1, 2, mX5_trade)), (13, 54, (1, 2, mX6_trade)), (13, 55, (1, 0, mX5_shift)), (13, 59, (1, 0, mX6_shift)), (13, 60, (1, 0, mX5_back)), (13, 63, (1, 0, mX6_back))]
def mP_13 : List (Nat × Nat × Nat × Nat × Nat) := [(307, 310, 63, 308, 309), (843, 846, 67, 844, 845), (311, 314, 63, 312, 313), (847, 850, 67, 848, 849), (315, 318, 63, 316, 317), (851, 854, 67, 852, 853), (325, 328, 63, 326, 327), (856, 859, 67, 857, 858), (357, 360, 63, 358, 359), (888, 891, 67, 889, 890), (365, 368, 63, 366, 367), (896, 899, 67, 897, 898)]
set_option maxRecDepth 100000 in
theorem mC_13 : (mT_13.zip mP_13).all mChk = true := by decide +kernel
def mT_14 : List (Nat × Nat × (Nat × Nat × mI)) := [(13, 64, (1, 2, mX5_stone)), (13, 67, (1, 2, mX6_stone)), (13, 68, (1, 0, mX5_home)), (13, 71, (1, 0, mX6_home)), (13, 72, (1, 1, mX5_hours)), (13, 76, (1, 1, mX6_hours)), (13, 77, (1, 1, mX5_now)), (13, 80, (1, 1, mX6_now)), (13, 81, (1, 2, mX5_on)), (13, 84, (1, 2, mX6_on)), (13, 85, (1, 3, mX5_then)), (13, 88, (1, 3, mX6_then))]
def mP_14 : List (Nat × Nat × Nat × Nat × Nat) := [(390, 393, 63, 391, 392), (916, 919, 67, 917, 918), (394, 397, 63, 395, 396), (920, 923, 67, 921, 922), (402, 405, 63, 403, 404), (924, 927, 67, 925, 926), (421, 424, 63, 422, 423), (940, 943, 67, 941, 942), (432, 435, 63, 433, 434), (948, 951, 67, 949, 950), (450, 453, 63, 451, 452), (956, 959, 67, 957, 958)]
set_option maxRecDepth 100000 in
theorem mC_14 : (mT_14.zip mP_14).all mChk = true := by decide +kernel
def mT_15 : List (Nat × Nat × (Nat × Nat × mI)) := [(13, 89, (1, 2, mX5_rich)), (13, 92, (1, 2, mX6_rich)), (13, 93, (1, 2, mX5_best)), (13, 96, (1, 2, mX6_best)), (13, 97, (1, 2, mX5_kind)), (13, 100, (1, 2, mX6_kind)), (13, 101, (1, 2, mX5_shifts)), (13, 104, (1, 2, mX6_shifts)), (13, 105, (1, 4, mX5_least)), (13, 109, (1, 4, mX6_least)), (13, 110, (1, 1, mX5_draw)), (13, 113, (1, 1, mX6_draw))]
def mP_15 : List (Nat × Nat × Nat × Nat × Nat) := [(454, 457, 63, 455, 456), (960, 963, 67, 961, 962), (458, 461, 63, 459, 460), (964, 967, 67, 965, 966), (462, 465, 63, 463, 464), (972, 975, 67, 973, 974), (466, 469, 63, 467, 468), (980, 983, 67, 981, 982), (470, 473, 63, 471, 472), (984, 987, 67, 985, 986), (474, 477, 63, 475, 476), (988, 991, 67, 989, 990)]
set_option maxRecDepth 100000 in
theorem mC_15 : (mT_15.zip mP_15).all mChk = true := by decide +kernel
def mT_16 : List (Nat × Nat × (Nat × Nat × mI)) := [(13, 114, (1, 1, mX5_richest)), (13, 117, (1, 1, mX6_richest)), (13, 118, (1, 2, mX5_feed)), (13, 121, (1, 2, mX6_feed)), (13, 122, (1, 0, mX5_wipe)), (13, 125, (1, 0, mX6_wipe)), (13, 126, (1, 0, mX5_city)), (13, 129, (1, 0, mX6_city)), (13, 130, (1, 3, mX5_sheet)), (13, 133, (1, 3, mX6_sheet)), (13, 136, (1, 3, mX5_write)), (13, 140, (1, 3, mX6_write))]
def mP_16 : List (Nat × Nat × Nat × Nat × Nat) := [(482, 485, 63, 483, 484), (992, 995, 67, 993, 994), (486, 489, 63, 487, 488), (996, 999, 67, 997, 998), (498, 501, 63, 499, 500), (1000, 1003, 67, 1001, 1002), (506, 509, 63, 507, 508), (1004, 1007, 67, 1005, 1006), (627, 630, 63, 628, 629), (1050, 1053, 67, 1051, 1052), (638, 641, 63, 639, 640), (1058, 1061, 67, 1059, 1060)]
set_option maxRecDepth 100000 in
theorem mC_16 : (mT_16.zip mP_16).all mChk = true := by decide +kernel
def mT_17 : List (Nat × Nat × (Nat × Nat × mI)) := [(13, 141, (1, 5, mX5_copy)), (13, 145, (1, 5, mX6_copy)), (13, 146, (1, 1, mX5_lays)), (13, 149, (1, 1, mX6_lays)), (13, 150, (1, 2, mX5_book)), (13, 153, (1, 2, mX6_book)), (13, 154, (1, 3, mX5_read)), (13, 157, (1, 3, mX6_read)), (13, 158, (1, 0, mX5_image)), (13, 161, (1, 0, mX6_image)), (13, 162, (1, 0, mX5_undo)), (13, 165, (1, 0, mX6_undo))]
def mP_17 : List (Nat × Nat × Nat × Nat × Nat) := [(650, 653, 63, 651, 652), (1070, 1073, 67, 1071, 1072), (659, 662, 63, 660, 661), (1078, 1081, 67, 1079, 1080), (664, 667, 63, 665, 666), (1082, 1085, 67, 1083, 1084), (668, 671, 63, 669, 670), (1086, 1089, 67, 1087, 1088), (682, 685, 63, 683, 684), (1094, 1097, 67, 1095, 1096), (686, 689, 63, 687, 688), (1098, 1101, 67, 1099, 1100)]
set_option maxRecDepth 100000 in
theorem mC_17 : (mT_17.zip mP_17).all mChk = true := by decide +kernel
def mT_18 : List (Nat × Nat × (Nat × Nat × mI)) := [(13, 166, (1, 0, mX5_tear)), (13, 169, (1, 0, mX6_tear)), (13, 170, (1, 1, mX5_count)), (13, 173, (1, 1, mX6_count)), (13, 174, (1, 1, mX5_status)), (13, 177, (1, 1, mX6_status))]
def mP_18 : List (Nat × Nat × Nat × Nat × Nat) := [(690, 693, 63, 691, 692), (1102, 1105, 67, 1103, 1104), (694, 697, 63, 695, 696), (1106, 1109, 67, 1107, 1108), (702, 705, 63, 703, 704), (1114, 1117, 67, 1115, 1116)]
set_option maxRecDepth 100000 in
theorem mC_18 : (mT_18.zip mP_18).all mChk = true := by decide +kernel
set_option maxRecDepth 100000 in
theorem mTab_sp : mTab = mT_0 ++ (mT_1 ++ (mT_2 ++ (mT_3 ++ (mT_4 ++ (mT_5 ++ (mT_6 ++ (mT_7 ++ (mT_8 ++ (mT_9 ++ (mT_10 ++ (mT_11 ++ (mT_12 ++ (mT_13 ++ (mT_14 ++ (mT_15 ++ (mT_16 ++ (mT_17 ++ (mT_18)))))))))))))))))) := rfl
theorem mTab_one {q : Nat × Nat × (Nat × Nat × mI)} (h : q ∈ mTab) : ∃ i, mChk (q, i) = true := by
  rw [mTab_sp] at h
  simp only [List.mem_append] at h
  rcases h with h | h | h | h | h | h | h | h | h | h | h | h | h | h | h | h | h | h | h
  · exact zip_all (m := mP_0) (by decide) mC_0 h
  · exact zip_all (m := mP_1) (by decide) mC_1 h
  · exact zip_all (m := mP_2) (by decide) mC_2 h
  · exact zip_all (m := mP_3) (by decide) mC_3 h
  · exact zip_all (m := mP_4) (by decide) mC_4 h
  · exact zip_all (m := mP_5) (by decide) mC_5 h
  · exact zip_all (m := mP_6) (by decide) mC_6 h
  · exact zip_all (m := mP_7) (by decide) mC_7 h
  · exact zip_all (m := mP_8) (by decide) mC_8 h
  · exact zip_all (m := mP_9) (by decide) mC_9 h
  · exact zip_all (m := mP_10) (by decide) mC_10 h
  · exact zip_all (m := mP_11) (by decide) mC_11 h
  · exact zip_all (m := mP_12) (by decide) mC_12 h
  · exact zip_all (m := mP_13) (by decide) mC_13 h
  · exact zip_all (m := mP_14) (by decide) mC_14 h
  · exact zip_all (m := mP_15) (by decide) mC_15 h
  · exact zip_all (m := mP_16) (by decide) mC_16 h
  · exact zip_all (m := mP_17) (by decide) mC_17 h
  · exact zip_all (m := mP_18) (by decide) mC_18 h
