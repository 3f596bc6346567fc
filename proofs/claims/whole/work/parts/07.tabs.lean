/-! what the tables of the claim say of the pure machine's tables: by places, decided -/
def ownN (c : Nat) : String := [RX0, RX1, RX2, RX3, RX4, RX5, RX6, RJ6, RJ9, RJ0, RJ1, RJ3, RJ2, RL].getD c ""
def txT : List String := ["yard", "sea", "street", "sky", "steeple", "garden", "", "trade", "money", "fine", "curtain"]
def fPl : List Nat := [91, 93, 96, 99, 101, 104, 106, 108, 162, 164, 166, 135, 136, 138, 139, 140, 141, 95, 109, 103, 98, 176, 177, 178, 179, 180, 181, 182, 183, 184, 97, 94, 100, 102, 105, 107, 110, 92, 137, 165, 167, 163, 712, 713, 714, 716, 717, 724, 725, 726, 718, 720, 721, 722, 719, 723, 715]
def mPl : List (Nat × Nat × Nat × Nat × Nat) := [(291, 277, 64, 275, 276), (244, 246, 68, 245, 0), (240, 243, 64, 241, 242), (304, 306, 68, 305, 0), (236, 239, 64, 237, 238), (380, 383, 64, 381, 382), (384, 386, 72, 385, 0), (337, 303, 64, 301, 302), (333, 336, 64, 335, 1), (342, 345, 64, 344, 2), (350, 353, 64, 351, 352), (354, 356, 70, 355, 0), (347, 349, 70, 348, 0), (410, 412, 68, 411, 0), (322, 265, 68, 264, 0), (247, 249, 68, 248, 0), (253, 255, 68, 254, 0), (250, 252, 69, 251, 0), (256, 258, 69, 257, 0), (413, 299, 68, 298, 0), (414, 416, 70, 415, 0), (443, 246, 68, 245, 0), (444, 412, 68, 411, 0), (514, 517, 65, 516, 6), (533, 536, 65, 535, 9), (537, 540, 65, 539, 10), (603, 265, 68, 264, 0), (604, 607, 65, 606, 12), (551, 554, 65, 553, 11), (616, 619, 65, 618, 14), (622, 625, 65, 624, 15), (608, 611, 65, 610, 13), (612, 269, 64, 267, 268), (620, 353, 64, 351, 352), (541, 543, 68, 542, 0), (555, 558, 73, 556, 557), (565, 568, 73, 566, 567), (518, 520, 65, 519, 0), (521, 524, 65, 523, 7), (525, 527, 65, 526, 0), (528, 531, 65, 530, 8), (532, 349, 70, 348, 0), (208, 210, 63, 209, 0), (211, 213, 63, 212, 0), (215, 218, 63, 217, 0), (224, 227, 64, 225, 226), (228, 231, 64, 229, 230), (232, 235, 64, 233, 234), (263, 265, 68, 264, 0), (266, 269, 64, 267, 268), (274, 277, 64, 275, 276), (278, 239, 64, 237, 238), (287, 290, 64, 288, 289), (292, 295, 64, 293, 294), (296, 243, 64, 241, 242), (297, 299, 68, 298, 0), (300, 303, 64, 301, 302), (319, 321, 68, 320, 0), (329, 332, 64, 330, 331), (338, 341, 64, 339, 340), (361, 364, 64, 362, 363), (369, 372, 64, 370, 371), (376, 379, 64, 377, 378), (398, 401, 64, 399, 400), (406, 409, 64, 407, 408), (417, 420, 64, 418, 419), (425, 252, 69, 251, 0), (426, 258, 69, 257, 0), (427, 383, 64, 381, 382), (428, 431, 64, 429, 430), (436, 439, 63, 438, 3), (445, 448, 63, 447, 4), (440, 442, 68, 441, 0), (478, 481, 63, 480, 5), (490, 493, 65, 491, 492), (494, 497, 65, 495, 496), (502, 505, 65, 503, 504), (510, 513, 65, 511, 512), (631, 633, 63, 632, 0), (634, 637, 66, 635, 636), (642, 645, 66, 643, 644), (646, 649, 66, 647, 648), (654, 657, 66, 655, 656), (672, 675, 63, 674, 16), (676, 679, 63, 678, 17), (698, 701, 64, 699, 700), (449, 349, 70, 348, 0), (680, 246, 68, 245, 0), (681, 412, 68, 411, 0), (774, 777, 67, 776, 19), (765, 767, 67, 766, 0), (794, 797, 67, 796, 23), (798, 801, 67, 800, 24), (802, 805, 67, 804, 25), (782, 785, 67, 784, 20), (790, 793, 67, 792, 22), (762, 764, 67, 763, 0), (769, 772, 67, 771, 18), (786, 789, 67, 788, 21), (811, 814, 67, 813, 26), (819, 822, 67, 821, 27), (831, 834, 67, 833, 28), (835, 838, 67, 837, 29), (839, 842, 67, 841, 30), (880, 882, 67, 881, 0), (864, 867, 67, 866, 32), (868, 871, 67, 870, 33), (876, 879, 67, 878, 35), (883, 886, 67, 885, 36), (860, 863, 67, 862, 31), (872, 875, 67, 874, 34), (892, 895, 67, 894, 37), (900, 903, 67, 902, 38), (907, 910, 67, 909, 39), (911, 914, 67, 913, 40), (932, 935, 67, 934, 42), (928, 931, 67, 930, 41), (936, 939, 67, 938, 43), (944, 947, 67, 946, 44), (904, 906, 67, 905, 0), (952, 955, 67, 954, 45), (968, 971, 67, 970, 46), (976, 979, 67, 978, 47), (1020, 1023, 67, 1022, 51), (1012, 1015, 67, 1014, 49), (1016, 1019, 67, 1018, 50), (1008, 1011, 67, 1010, 48), (1042, 1045, 67, 1044, 56), (1034, 1037, 67, 1036, 54), (1038, 1041, 67, 1040, 55), (1030, 1033, 67, 1032, 53), (1046, 1049, 67, 1048, 57), (1026, 1029, 67, 1028, 52), (1054, 1056, 67, 1055, 0), (1062, 1065, 67, 1064, 58), (1067, 1069, 67, 1068, 0), (1074, 1077, 67, 1076, 59), (1090, 1093, 67, 1092, 60), (1110, 1113, 67, 1112, 61), (559, 562, 73, 560, 561), (569, 572, 73, 570, 571), (573, 575, 74, 574, 0), (584, 586, 76, 585, 0), (581, 583, 75, 582, 0), (576, 578, 73, 577, 0), (590, 592, 76, 591, 0), (587, 589, 76, 588, 0), (594, 596, 76, 595, 0), (593, 578, 73, 577, 0), (204, 207, 63, 205, 206), (758, 761, 67, 759, 760), (220, 223, 63, 221, 222), (778, 781, 67, 779, 780), (259, 262, 63, 260, 261), (806, 809, 67, 807, 808), (270, 273, 63, 271, 272), (815, 818, 67, 816, 817), (279, 282, 63, 280, 281), (823, 826, 67, 824, 825), (283, 286, 63, 284, 285), (827, 830, 67, 828, 829), (307, 310, 63, 308, 309), (843, 846, 67, 844, 845), (311, 314, 63, 312, 313), (847, 850, 67, 848, 849), (315, 318, 63, 316, 317), (851, 854, 67, 852, 853), (325, 328, 63, 326, 327), (856, 859, 67, 857, 858), (357, 360, 63, 358, 359), (888, 891, 67, 889, 890), (365, 368, 63, 366, 367), (896, 899, 67, 897, 898), (390, 393, 63, 391, 392), (916, 919, 67, 917, 918), (394, 397, 63, 395, 396), (920, 923, 67, 921, 922), (402, 405, 63, 403, 404), (924, 927, 67, 925, 926), (421, 424, 63, 422, 423), (940, 943, 67, 941, 942), (432, 435, 63, 433, 434), (948, 951, 67, 949, 950), (450, 453, 63, 451, 452), (956, 959, 67, 957, 958), (454, 457, 63, 455, 456), (960, 963, 67, 961, 962), (458, 461, 63, 459, 460), (964, 967, 67, 965, 966), (462, 465, 63, 463, 464), (972, 975, 67, 973, 974), (466, 469, 63, 467, 468), (980, 983, 67, 981, 982), (470, 473, 63, 471, 472), (984, 987, 67, 985, 986), (474, 477, 63, 475, 476), (988, 991, 67, 989, 990), (482, 485, 63, 483, 484), (992, 995, 67, 993, 994), (486, 489, 63, 487, 488), (996, 999, 67, 997, 998), (498, 501, 63, 499, 500), (1000, 1003, 67, 1001, 1002), (506, 509, 63, 507, 508), (1004, 1007, 67, 1005, 1006), (627, 630, 63, 628, 629), (1050, 1053, 67, 1051, 1052), (638, 641, 63, 639, 640), (1058, 1061, 67, 1059, 1060), (650, 653, 63, 651, 652), (1070, 1073, 67, 1071, 1072), (659, 662, 63, 660, 661), (1078, 1081, 67, 1079, 1080), (664, 667, 63, 665, 666), (1082, 1085, 67, 1083, 1084), (668, 671, 63, 669, 670), (1086, 1089, 67, 1087, 1088), (682, 685, 63, 683, 684), (1094, 1097, 67, 1095, 1096), (686, 689, 63, 687, 688), (1098, 1101, 67, 1099, 1100), (690, 693, 63, 691, 692), (1102, 1105, 67, 1103, 1104), (694, 697, 63, 695, 696), (1106, 1109, 67, 1107, 1108), (702, 705, 63, 703, 704), (1114, 1117, 67, 1115, 1116)]
def aPl : List Nat := [373, 658]
def aPn : Nat := 375
def aPs : Nat := 374
def aPi : Nat := 71
def cPl : List Nat := [346, 214, 219, 773, 915, 768, 810, 855, 887, 1057, 1066, 387, 388, 389]
def clPl : List Nat := [663, 1118]
def lPl : List (List Nat) := [[111, 113, 115, 117, 119, 121, 123, 125], [111, 113, 115, 117, 119, 121, 123, 125], [111, 113, 115, 117, 119, 121, 123, 125], [168, 170, 172], [142, 144, 146, 148, 150, 152], [185, 187, 189, 191, 193, 195, 197, 199, 201], [727, 729, 731, 733, 735, 737, 739, 741, 743, 745, 747, 749, 751, 753, 755]]
def gPa : Nat := 323
def gPn : Nat := 1024
def gPc : Nat := 563
def gPs : Nat := 579
def sPv : Nat := 1119
def sPc : Nat := 1120
def WT : List Cond := lw_tbl.filter goodWord
def inT (w : Cond) (i : Nat) : Bool := decide (lw_tbl[i]? = some w) && goodWord w
theorem inT_mem {w : Cond} {i : Nat} (h : inT w i = true) : w ∈ WT := by
  simp only [inT, Bool.and_eq_true, decide_eq_true_eq] at h
  exact List.mem_filter.mpr ⟨List.mem_of_getElem? h.1, h.2⟩
theorem WT_good {ws : List Cond} (h : ∀ w ∈ ws, w ∈ WT) : GoodIn WT ws := fun w hw => ⟨h w hw, good_of_word (List.mem_filter.mp (h w hw)).2⟩
def dC7 : vw_C := (RX1, TX1, 8)
def fChk (q : (Nat × Nat × (Nat × Nat)) × Nat) : Bool :=
  let z := cls7.getD q.1.2.2.1 dC7
  let t := z.2.1 q.1.2.2.2
  inT (.fieldLink (ownN q.1.1) q.1.2.1 t.1 t.2.1 t.2.2.1) q.2 && (decide (q.1.2.2.1 < 7) && (decide (q.1.2.2.2 < z.2.2) && (decide (fO q.1.2.2.1 q.1.2.2.2 = 0 → t.2.2.2 = false ∧ parseFieldDescriptor t.2.2.1 = some .int) && decide (fO q.1.2.2.1 q.1.2.2.2 = 1 → t.2.2.2 = false ∧ parseFieldDescriptor t.2.2.1 = some .boolean))))
theorem zip_all {α β : Type} {l : List α} {m : List β} {f : α × β → Bool} (hl : l.length ≤ m.length) (h : (l.zip m).all f = true) {a : α} (ha : a ∈ l) : ∃ b : β, f (a, b) = true := by
  obtain ⟨i, hi, hi2⟩ := List.mem_iff_getElem.mp ha
  have hm : i < m.length := by omega
  refine ⟨m[i], ?_⟩
  have hz : (a, m[i]) ∈ l.zip m := by
    refine List.mem_iff_getElem.mpr ⟨i, by rw [List.length_zip]; omega, ?_⟩
    rw [List.getElem_zip, hi2]
  exact List.all_eq_true.mp h _ hz
set_option maxRecDepth 100000 in
theorem fTab_chk : (fTab.zip fPl).all fChk = true := by decide +kernel
theorem cls7_at {c : Nat} (h : c < 7) : cls7[c]? = some (cls7.getD c dC7) := by
  have : c < cls7.length := h
  rw [List.getD_eq_getElem?_getD, List.getElem?_eq_getElem this]
  rfl
theorem fTab_ok {a b ci k : Nat} (h : (a, b, (ci, k)) ∈ fTab) : Cond.fieldLink (ownN a) b ((cls7.getD ci dC7).2.1 k).1 ((cls7.getD ci dC7).2.1 k).2.1 ((cls7.getD ci dC7).2.1 k).2.2.1 ∈ WT ∧ ci < 7 ∧ k < (cls7.getD ci dC7).2.2 ∧ (fO ci k = 0 → ((cls7.getD ci dC7).2.1 k).2.2.2 = false ∧ parseFieldDescriptor ((cls7.getD ci dC7).2.1 k).2.2.1 = some .int) ∧ (fO ci k = 1 → ((cls7.getD ci dC7).2.1 k).2.2.2 = false ∧ parseFieldDescriptor ((cls7.getD ci dC7).2.1 k).2.2.1 = some .boolean) := by
  obtain ⟨i, hi⟩ := zip_all (m := fPl) (by decide) fTab_chk h
  simp only [fChk, Bool.and_eq_true, decide_eq_true_eq] at hi
  exact ⟨inT_mem hi.1, hi.2⟩
def mChk (q : (Nat × Nat × (Nat × Nat × mI)) × (Nat × Nat × Nat × Nat × Nat)) : Bool :=
  let M := q.1.2.2.2.2
  inT (.methodLink (ownN q.1.1) q.1.2.1 M.y) q.2.1 && (inT (.code M.y M.b M.n M.r) q.2.2.1 && (inT (.initialized M.y.cls) q.2.2.2.1 && (decide (M.y.cls ≠ "java/lang/invoke/MethodHandle") && (decide (M.y.cls ≠ "java/lang/invoke/VarHandle") && (decide ((parseMethodDescriptor M.y.desc).map (fun d => d.parameters.length) = some q.1.2.2.2.1) && (decide (M.y.cls = ownN M.c) && (plainName M.y.cls &&
  (match q.1.2.2.1 with
    | 0 => inT (.static M.y) q.2.2.2.2.1
    | _ => inT (.instanceMethod M.y) q.2.2.2.2.1 && (inT (.selects M.y.cls M.y M.y) q.2.2.2.2.2 && (decide (M.c = 9) || (decide (M.c < 7) && decide ((cls7.getD M.c dC7).1 = M.y.cls))))))))))))
set_option maxRecDepth 100000 in
theorem mTab_chk : (mTab.zip mPl).all mChk = true := by decide +kernel
/-- a method that is there -/
def okM (M : mI) : Prop := Cond.code M.y M.b M.n M.r ∈ WT ∧ Cond.initialized M.y.cls ∈ WT ∧ M.y.cls ≠ "java/lang/invoke/MethodHandle" ∧ M.y.cls ≠ "java/lang/invoke/VarHandle" ∧ M.y.cls = ownN M.c ∧ plainName M.y.cls = true
theorem mTab_ok {a b kd na : Nat} {M : mI} (h : (a, b, (kd, na, M)) ∈ mTab) : okM M ∧ Cond.methodLink (ownN a) b M.y ∈ WT ∧ (parseMethodDescriptor M.y.desc).map (fun d => d.parameters.length) = some na ∧ (kd = 0 → Cond.static M.y ∈ WT) ∧ (kd = 1 → Cond.instanceMethod M.y ∈ WT ∧ Cond.selects M.y.cls M.y M.y ∈ WT ∧ (M.c = 9 ∨ (M.c < 7 ∧ (cls7.getD M.c dC7).1 = M.y.cls))) := by
  obtain ⟨i, hi⟩ := zip_all (m := mPl) (by decide) mTab_chk h
  simp only [mChk, Bool.and_eq_true, decide_eq_true_eq] at hi
  obtain ⟨h1, h2, h3, h4, h5, h6, h7, h8, h9⟩ := hi
  refine ⟨⟨inT_mem h2, inT_mem h3, h4, h5, h7, h8⟩, inT_mem h1, h6, fun z => ?_, fun z => ?_⟩
  · subst z
    exact inT_mem h9
  · subst z
    simp only [Bool.and_eq_true, Bool.or_eq_true, decide_eq_true_eq] at h9
    exact ⟨inT_mem h9.1, inT_mem h9.2.1, h9.2.2⟩
def aChk (q : (Nat × Nat × Unit) × Nat) : Bool := inT (.methodLink (ownN q.1.1) q.1.2.1 arraycopyName) q.2
set_option maxRecDepth 100000 in
theorem aTab_chk : (aTab.zip aPl).all aChk = true := by decide +kernel
theorem aTab_ok {a b : Nat} {u : Unit} (h : (a, b, u) ∈ aTab) : Cond.methodLink (ownN a) b arraycopyName ∈ WT := by
  obtain ⟨i, hi⟩ := zip_all (m := aPl) (by decide) aTab_chk h
  exact inT_mem hi
set_option maxRecDepth 100000 in
theorem aNat : Cond.native arraycopyName ∈ WT := inT_mem (i := aPn) (by decide +kernel)
set_option maxRecDepth 100000 in
theorem aSta : Cond.static arraycopyName ∈ WT := inT_mem (i := aPs) (by decide +kernel)
set_option maxRecDepth 100000 in
theorem aIni : Cond.initialized "java/lang/System" ∈ WT := inT_mem (i := aPi) (by decide +kernel)
set_option maxRecDepth 100000 in
theorem cTab_chk : (cTab.zip cPl).all (fun q => inT (.constant (ownN q.1.1) q.1.2.1 q.1.2.2) q.2) = true := by decide +kernel
theorem cTab_ok {a b : Nat} {v : Int32} (h : (a, b, v) ∈ cTab) : Cond.constant (ownN a) b v ∈ WT := by
  obtain ⟨i, hi⟩ := zip_all (m := cPl) (by decide) cTab_chk h
  exact inT_mem hi
set_option maxRecDepth 100000 in
theorem clTab_chk : (clTab.zip clPl).all (fun q => inT (.constantLong (ownN q.1.1) q.1.2.1 q.1.2.2) q.2) = true := by decide +kernel
theorem clTab_ok {a b : Nat} {v : Int64} (h : (a, b, v) ∈ clTab) : Cond.constantLong (ownN a) b v ∈ WT := by
  obtain ⟨i, hi⟩ := zip_all (m := clPl) (by decide) clTab_chk h
  exact inT_mem hi
set_option maxRecDepth 100000 in
theorem lay_chk : ∀ c, c < 7 → ((List.range (cls7.getD c dC7).2.2).map (u_lay (cls7.getD c dC7).1 (cls7.getD c dC7).2.1)).length ≤ (lPl.getD c []).length ∧ (((List.range (cls7.getD c dC7).2.2).map (u_lay (cls7.getD c dC7).1 (cls7.getD c dC7).2.1)).zip (lPl.getD c [])).all (fun q => inT q.1 q.2) = true := by decide +kernel
theorem lay_ok {c : Nat} (h : c < 7) : ∀ w ∈ u_ws (cls7.getD c dC7).1 (cls7.getD c dC7).2.1 (cls7.getD c dC7).2.2, w ∈ WT := by
  intro w hw
  obtain ⟨i, hi⟩ := zip_all (m := lPl.getD c []) (lay_chk c h).1 (lay_chk c h).2 (a := w) hw
  exact inT_mem hi
set_option maxRecDepth 100000 in
theorem ty_chk : ∀ c, c < 7 → ∀ k, k < (cls7.getD c dC7).2.2 → (parseFieldDescriptor ((cls7.getD c dC7).2.1 k).2.2.1).isSome = true := by decide +kernel
theorem ty_ok {c : Nat} (h : c < 7) : ∀ k, k < (cls7.getD c dC7).2.2 → parseFieldDescriptor ((cls7.getD c dC7).2.1 k).2.2.1 = some ((parseFieldDescriptor ((cls7.getD c dC7).2.1 k).2.2.1).getD .int) := by
  intro k hk
  have h7 := ty_chk c h k hk
  cases hq : parseFieldDescriptor ((cls7.getD c dC7).2.1 k).2.2.1 with
  | none => rw [hq] at h7; cases h7
  | some t => rfl
set_option maxRecDepth 100000 in
theorem nm_ok : ∀ c, c < 7 → ∀ a, a < (cls7.getD c dC7).2.2 → ∀ b, b < (cls7.getD c dC7).2.2 → a ≠ b → ((cls7.getD c dC7).2.1 a).2.1 ≠ ((cls7.getD c dC7).2.1 b).2.1 := by decide +kernel
theorem nF_ok : ∀ c, c < 7 → nF c = (cls7.getD c dC7).2.2 := by decide
set_option maxRecDepth 100000 in
theorem gA_ok : Cond.fieldLink (ownN 2) 13 "ViewTrades$Kinds" "ABOVE" "[I" ∈ WT := inT_mem (i := gPa) (by decide +kernel)
set_option maxRecDepth 100000 in
theorem gN_ok : Cond.fieldLink (ownN 6) 159 "ViewTradesModel" "NAMES" "[I" ∈ WT := inT_mem (i := gPn) (by decide +kernel)
set_option maxRecDepth 100000 in
theorem gC_ok : Cond.fieldLink (ownN 9) 38 "java/lang/String" "COMPACT_STRINGS" "Z" ∈ WT := inT_mem (i := gPc) (by decide +kernel)
set_option maxRecDepth 100000 in
theorem gS_ok : Cond.fieldLink (ownN 9) 1053 "jdk/internal/util/Preconditions" "SIOOBE_FORMATTER" "Ljava/util/function/BiFunction;" ∈ WT := inT_mem (i := gPs) (by decide +kernel)
set_option maxRecDepth 100000 in
theorem sV_ok : Cond.fieldLink (ownN 9) 9 "java/lang/String" "value" "[B" ∈ WT := inT_mem (i := sPv) (by decide +kernel)
set_option maxRecDepth 100000 in
theorem sC_ok : Cond.fieldLink (ownN 9) 15 "java/lang/String" "coder" "B" ∈ WT := inT_mem (i := sPc) (by decide +kernel)
