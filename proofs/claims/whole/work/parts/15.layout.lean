/-! THE LAYOUT: the cells of the class (0 .. 108), the law's answer row (109), the reference (110 .. 138), a row that commit makes (139). An object: its class and its fields (0: an int, 1: a long, 2: the cell it refers to). A row: its type, its length, and of a row of references the first and the step. -/
def sList : List ((Nat × List (Nat × Nat × Nat)) ⊕ (Nat × Nat × Option (Nat × Nat))) := [
  .inl (9, [(0, 2, 1), (1, 2, 36), (2, 2, 39), (3, 2, 50), (4, 2, 52), (5, 2, 53), (6, 2, 84), (7, 0, 0), (8, 2, 48), (9, 2, 49), (10, 2, 85), (11, 2, 91), (12, 2, 94), (13, 2, 104), (14, 2, 108), (15, 0, 0)]),
  .inl (1, [(0, 2, 2), (1, 2, 3)]),
  .inr (6, 32, some (4, 1)),
  .inr (0, 13, none),
  .inr (0, 13, none),
  .inr (0, 13, none),
  .inr (0, 13, none),
  .inr (0, 13, none),
  .inr (0, 13, none),
  .inr (0, 13, none),
  .inr (0, 13, none),
  .inr (0, 13, none),
  .inr (0, 13, none),
  .inr (0, 13, none),
  .inr (0, 13, none),
  .inr (0, 13, none),
  .inr (0, 13, none),
  .inr (0, 13, none),
  .inr (0, 13, none),
  .inr (0, 13, none),
  .inr (0, 13, none),
  .inr (0, 13, none),
  .inr (0, 13, none),
  .inr (0, 13, none),
  .inr (0, 13, none),
  .inr (0, 13, none),
  .inr (0, 13, none),
  .inr (0, 13, none),
  .inr (0, 13, none),
  .inr (0, 13, none),
  .inr (0, 13, none),
  .inr (0, 13, none),
  .inr (0, 13, none),
  .inr (0, 13, none),
  .inr (0, 13, none),
  .inr (0, 13, none),
  .inl (8, [(0, 2, 37), (1, 2, 38), (2, 1, 0), (3, 0, 0), (4, 0, 0), (5, 0, 0)]),
  .inr (0, 8, none),
  .inr (0, 64, none),
  .inl (8, [(0, 2, 40), (1, 2, 41), (2, 1, 0), (3, 0, 0), (4, 0, 0), (5, 0, 0)]),
  .inr (0, 8, none),
  .inr (0, 64, none),
  .inl (8, [(0, 2, 43), (1, 2, 44), (2, 1, 0), (3, 0, 0), (4, 0, 0), (5, 0, 0)]),
  .inr (0, 8, none),
  .inr (0, 64, none),
  .inl (8, [(0, 2, 46), (1, 2, 47), (2, 1, 0), (3, 0, 0), (4, 0, 0), (5, 0, 0)]),
  .inr (0, 8, none),
  .inr (0, 64, none),
  .inr (5, 2, some (42, 3)),
  .inr (1, 2, none),
  .inl (0, [(0, 2, 51), (1, 1, 0), (2, 1, 0)]),
  .inr (0, 64, none),
  .inl (5, [(0, 0, 0), (1, 0, 0), (2, 0, 0)]),
  .inr (3, 3, some (54, 10)),
  .inl (7, [(0, 2, 55), (1, 2, 57), (2, 0, 0), (3, 0, 0)]),
  .inl (0, [(0, 2, 56), (1, 1, 0), (2, 1, 0)]),
  .inr (0, 64, none),
  .inr (4, 3, some (58, 2)),
  .inl (0, [(0, 2, 59), (1, 1, 0), (2, 1, 0)]),
  .inr (0, 64, none),
  .inl (0, [(0, 2, 61), (1, 1, 0), (2, 1, 0)]),
  .inr (0, 64, none),
  .inl (0, [(0, 2, 63), (1, 1, 0), (2, 1, 0)]),
  .inr (0, 64, none),
  .inl (7, [(0, 2, 65), (1, 2, 67), (2, 0, 0), (3, 0, 0)]),
  .inl (0, [(0, 2, 66), (1, 1, 0), (2, 1, 0)]),
  .inr (0, 64, none),
  .inr (4, 3, some (68, 2)),
  .inl (0, [(0, 2, 69), (1, 1, 0), (2, 1, 0)]),
  .inr (0, 64, none),
  .inl (0, [(0, 2, 71), (1, 1, 0), (2, 1, 0)]),
  .inr (0, 64, none),
  .inl (0, [(0, 2, 73), (1, 1, 0), (2, 1, 0)]),
  .inr (0, 64, none),
  .inl (7, [(0, 2, 75), (1, 2, 77), (2, 0, 0), (3, 0, 0)]),
  .inl (0, [(0, 2, 76), (1, 1, 0), (2, 1, 0)]),
  .inr (0, 64, none),
  .inr (4, 3, some (78, 2)),
  .inl (0, [(0, 2, 79), (1, 1, 0), (2, 1, 0)]),
  .inr (0, 64, none),
  .inl (0, [(0, 2, 81), (1, 1, 0), (2, 1, 0)]),
  .inr (0, 64, none),
  .inl (0, [(0, 2, 83), (1, 1, 0), (2, 1, 0)]),
  .inr (0, 64, none),
  .inr (0, 3, none),
  .inl (2, [(0, 2, 86), (1, 0, 0), (2, 2, 87), (3, 2, 88), (4, 2, 89), (5, 2, 90), (6, 0, 0)]),
  .inr (2, 60, none),
  .inr (0, 60, none),
  .inr (0, 60, none),
  .inr (0, 60, none),
  .inr (1, 60, none),
  .inl (4, [(0, 2, 92), (1, 2, 93), (2, 0, 0)]),
  .inr (2, 960, none),
  .inr (2, 10, none),
  .inl (3, [(0, 2, 95), (1, 0, 0)]),
  .inr (6, 8, some (96, 1)),
  .inr (0, 4, none),
  .inr (0, 4, none),
  .inr (0, 4, none),
  .inr (0, 4, none),
  .inr (0, 4, none),
  .inr (0, 4, none),
  .inr (0, 4, none),
  .inr (0, 4, none),
  .inl (6, [(0, 2, 105), (1, 2, 106), (2, 2, 107), (3, 1, 0)]),
  .inr (0, 64, none),
  .inr (0, 64, none),
  .inr (0, 64, none),
  .inr (0, 8, none),
  .inr (7, 1, none),
  .inl (10, [(0, 0, 0), (1, 2, 111), (2, 0, 0), (3, 0, 0), (4, 2, 112), (5, 2, 113), (6, 2, 114), (7, 2, 115), (8, 2, 116), (9, 2, 117), (10, 2, 118), (11, 2, 119), (12, 2, 120), (13, 2, 121), (14, 2, 122), (15, 2, 123), (16, 2, 124), (17, 2, 125), (18, 2, 126), (19, 0, 0), (20, 2, 127), (21, 0, 0), (22, 2, 128), (23, 0, 0), (24, 2, 129), (25, 0, 0), (26, 2, 130), (27, 2, 131), (28, 2, 132), (29, 2, 133), (30, 2, 134), (31, 0, 0), (32, 0, 0), (33, 2, 135), (34, 2, 136), (35, 2, 137), (36, 2, 138), (37, 0, 0)]),
  .inr (0, 416, none),
  .inr (0, 3, none),
  .inr (0, 3, none),
  .inr (0, 24, none),
  .inr (1, 192, none),
  .inr (0, 192, none),
  .inr (1, 2, none),
  .inr (0, 3, none),
  .inr (1, 192, none),
  .inr (1, 192, none),
  .inr (0, 192, none),
  .inr (0, 3, none),
  .inr (1, 576, none),
  .inr (1, 576, none),
  .inr (0, 576, none),
  .inr (0, 3, none),
  .inr (2, 60, none),
  .inr (2, 1024, none),
  .inr (0, 32, none),
  .inr (0, 8, none),
  .inr (1, 64, none),
  .inr (0, 64, none),
  .inr (0, 64, none),
  .inr (0, 64, none),
  .inr (1, 8, none),
  .inr (1, 64, none),
  .inr (0, 64, none),
  .inr (0, 13, none),
  .inr (0, 8, none)]
def sLay (a : Nat) : (Nat × List (Nat × Nat × Nat)) ⊕ (Nat × Nat × Option (Nat × Nat)) := sList.getD a (.inr (0, 0, none))
theorem la_0 : sLay 0 = .inl (9, [(0, 2, 1), (1, 2, 36), (2, 2, 39), (3, 2, 50), (4, 2, 52), (5, 2, 53), (6, 2, 84), (7, 0, 0), (8, 2, 48), (9, 2, 49), (10, 2, 85), (11, 2, 91), (12, 2, 94), (13, 2, 104), (14, 2, 108), (15, 0, 0)]) := rfl
theorem la_1 : sLay 1 = .inl (1, [(0, 2, 2), (1, 2, 3)]) := rfl
theorem la_2 : sLay 2 = .inr (6, 32, some (4, 1)) := rfl
theorem la_3 : sLay 3 = .inr (0, 13, none) := rfl
theorem la_4 : sLay 4 = .inr (0, 13, none) := rfl
theorem la_5 : sLay 5 = .inr (0, 13, none) := rfl
theorem la_6 : sLay 6 = .inr (0, 13, none) := rfl
theorem la_7 : sLay 7 = .inr (0, 13, none) := rfl
theorem la_8 : sLay 8 = .inr (0, 13, none) := rfl
theorem la_9 : sLay 9 = .inr (0, 13, none) := rfl
theorem la_10 : sLay 10 = .inr (0, 13, none) := rfl
theorem la_11 : sLay 11 = .inr (0, 13, none) := rfl
theorem la_12 : sLay 12 = .inr (0, 13, none) := rfl
theorem la_13 : sLay 13 = .inr (0, 13, none) := rfl
theorem la_14 : sLay 14 = .inr (0, 13, none) := rfl
theorem la_15 : sLay 15 = .inr (0, 13, none) := rfl
theorem la_16 : sLay 16 = .inr (0, 13, none) := rfl
theorem la_17 : sLay 17 = .inr (0, 13, none) := rfl
theorem la_18 : sLay 18 = .inr (0, 13, none) := rfl
theorem la_19 : sLay 19 = .inr (0, 13, none) := rfl
theorem la_20 : sLay 20 = .inr (0, 13, none) := rfl
theorem la_21 : sLay 21 = .inr (0, 13, none) := rfl
theorem la_22 : sLay 22 = .inr (0, 13, none) := rfl
theorem la_23 : sLay 23 = .inr (0, 13, none) := rfl
theorem la_24 : sLay 24 = .inr (0, 13, none) := rfl
theorem la_25 : sLay 25 = .inr (0, 13, none) := rfl
theorem la_26 : sLay 26 = .inr (0, 13, none) := rfl
theorem la_27 : sLay 27 = .inr (0, 13, none) := rfl
theorem la_28 : sLay 28 = .inr (0, 13, none) := rfl
theorem la_29 : sLay 29 = .inr (0, 13, none) := rfl
theorem la_30 : sLay 30 = .inr (0, 13, none) := rfl
theorem la_31 : sLay 31 = .inr (0, 13, none) := rfl
theorem la_32 : sLay 32 = .inr (0, 13, none) := rfl
theorem la_33 : sLay 33 = .inr (0, 13, none) := rfl
theorem la_34 : sLay 34 = .inr (0, 13, none) := rfl
theorem la_35 : sLay 35 = .inr (0, 13, none) := rfl
theorem la_36 : sLay 36 = .inl (8, [(0, 2, 37), (1, 2, 38), (2, 1, 0), (3, 0, 0), (4, 0, 0), (5, 0, 0)]) := rfl
theorem la_37 : sLay 37 = .inr (0, 8, none) := rfl
theorem la_38 : sLay 38 = .inr (0, 64, none) := rfl
theorem la_39 : sLay 39 = .inl (8, [(0, 2, 40), (1, 2, 41), (2, 1, 0), (3, 0, 0), (4, 0, 0), (5, 0, 0)]) := rfl
theorem la_40 : sLay 40 = .inr (0, 8, none) := rfl
theorem la_41 : sLay 41 = .inr (0, 64, none) := rfl
theorem la_42 : sLay 42 = .inl (8, [(0, 2, 43), (1, 2, 44), (2, 1, 0), (3, 0, 0), (4, 0, 0), (5, 0, 0)]) := rfl
theorem la_43 : sLay 43 = .inr (0, 8, none) := rfl
theorem la_44 : sLay 44 = .inr (0, 64, none) := rfl
theorem la_45 : sLay 45 = .inl (8, [(0, 2, 46), (1, 2, 47), (2, 1, 0), (3, 0, 0), (4, 0, 0), (5, 0, 0)]) := rfl
theorem la_46 : sLay 46 = .inr (0, 8, none) := rfl
theorem la_47 : sLay 47 = .inr (0, 64, none) := rfl
theorem la_48 : sLay 48 = .inr (5, 2, some (42, 3)) := rfl
theorem la_49 : sLay 49 = .inr (1, 2, none) := rfl
theorem la_50 : sLay 50 = .inl (0, [(0, 2, 51), (1, 1, 0), (2, 1, 0)]) := rfl
theorem la_51 : sLay 51 = .inr (0, 64, none) := rfl
theorem la_52 : sLay 52 = .inl (5, [(0, 0, 0), (1, 0, 0), (2, 0, 0)]) := rfl
theorem la_53 : sLay 53 = .inr (3, 3, some (54, 10)) := rfl
theorem la_54 : sLay 54 = .inl (7, [(0, 2, 55), (1, 2, 57), (2, 0, 0), (3, 0, 0)]) := rfl
theorem la_55 : sLay 55 = .inl (0, [(0, 2, 56), (1, 1, 0), (2, 1, 0)]) := rfl
theorem la_56 : sLay 56 = .inr (0, 64, none) := rfl
theorem la_57 : sLay 57 = .inr (4, 3, some (58, 2)) := rfl
theorem la_58 : sLay 58 = .inl (0, [(0, 2, 59), (1, 1, 0), (2, 1, 0)]) := rfl
theorem la_59 : sLay 59 = .inr (0, 64, none) := rfl
theorem la_60 : sLay 60 = .inl (0, [(0, 2, 61), (1, 1, 0), (2, 1, 0)]) := rfl
theorem la_61 : sLay 61 = .inr (0, 64, none) := rfl
theorem la_62 : sLay 62 = .inl (0, [(0, 2, 63), (1, 1, 0), (2, 1, 0)]) := rfl
theorem la_63 : sLay 63 = .inr (0, 64, none) := rfl
theorem la_64 : sLay 64 = .inl (7, [(0, 2, 65), (1, 2, 67), (2, 0, 0), (3, 0, 0)]) := rfl
theorem la_65 : sLay 65 = .inl (0, [(0, 2, 66), (1, 1, 0), (2, 1, 0)]) := rfl
theorem la_66 : sLay 66 = .inr (0, 64, none) := rfl
theorem la_67 : sLay 67 = .inr (4, 3, some (68, 2)) := rfl
theorem la_68 : sLay 68 = .inl (0, [(0, 2, 69), (1, 1, 0), (2, 1, 0)]) := rfl
theorem la_69 : sLay 69 = .inr (0, 64, none) := rfl
theorem la_70 : sLay 70 = .inl (0, [(0, 2, 71), (1, 1, 0), (2, 1, 0)]) := rfl
theorem la_71 : sLay 71 = .inr (0, 64, none) := rfl
theorem la_72 : sLay 72 = .inl (0, [(0, 2, 73), (1, 1, 0), (2, 1, 0)]) := rfl
theorem la_73 : sLay 73 = .inr (0, 64, none) := rfl
theorem la_74 : sLay 74 = .inl (7, [(0, 2, 75), (1, 2, 77), (2, 0, 0), (3, 0, 0)]) := rfl
theorem la_75 : sLay 75 = .inl (0, [(0, 2, 76), (1, 1, 0), (2, 1, 0)]) := rfl
theorem la_76 : sLay 76 = .inr (0, 64, none) := rfl
theorem la_77 : sLay 77 = .inr (4, 3, some (78, 2)) := rfl
theorem la_78 : sLay 78 = .inl (0, [(0, 2, 79), (1, 1, 0), (2, 1, 0)]) := rfl
theorem la_79 : sLay 79 = .inr (0, 64, none) := rfl
theorem la_80 : sLay 80 = .inl (0, [(0, 2, 81), (1, 1, 0), (2, 1, 0)]) := rfl
theorem la_81 : sLay 81 = .inr (0, 64, none) := rfl
theorem la_82 : sLay 82 = .inl (0, [(0, 2, 83), (1, 1, 0), (2, 1, 0)]) := rfl
theorem la_83 : sLay 83 = .inr (0, 64, none) := rfl
theorem la_84 : sLay 84 = .inr (0, 3, none) := rfl
theorem la_85 : sLay 85 = .inl (2, [(0, 2, 86), (1, 0, 0), (2, 2, 87), (3, 2, 88), (4, 2, 89), (5, 2, 90), (6, 0, 0)]) := rfl
theorem la_86 : sLay 86 = .inr (2, 60, none) := rfl
theorem la_87 : sLay 87 = .inr (0, 60, none) := rfl
theorem la_88 : sLay 88 = .inr (0, 60, none) := rfl
theorem la_89 : sLay 89 = .inr (0, 60, none) := rfl
theorem la_90 : sLay 90 = .inr (1, 60, none) := rfl
theorem la_91 : sLay 91 = .inl (4, [(0, 2, 92), (1, 2, 93), (2, 0, 0)]) := rfl
theorem la_92 : sLay 92 = .inr (2, 960, none) := rfl
theorem la_93 : sLay 93 = .inr (2, 10, none) := rfl
theorem la_94 : sLay 94 = .inl (3, [(0, 2, 95), (1, 0, 0)]) := rfl
theorem la_95 : sLay 95 = .inr (6, 8, some (96, 1)) := rfl
theorem la_96 : sLay 96 = .inr (0, 4, none) := rfl
theorem la_97 : sLay 97 = .inr (0, 4, none) := rfl
theorem la_98 : sLay 98 = .inr (0, 4, none) := rfl
theorem la_99 : sLay 99 = .inr (0, 4, none) := rfl
theorem la_100 : sLay 100 = .inr (0, 4, none) := rfl
theorem la_101 : sLay 101 = .inr (0, 4, none) := rfl
theorem la_102 : sLay 102 = .inr (0, 4, none) := rfl
theorem la_103 : sLay 103 = .inr (0, 4, none) := rfl
theorem la_104 : sLay 104 = .inl (6, [(0, 2, 105), (1, 2, 106), (2, 2, 107), (3, 1, 0)]) := rfl
theorem la_105 : sLay 105 = .inr (0, 64, none) := rfl
theorem la_106 : sLay 106 = .inr (0, 64, none) := rfl
theorem la_107 : sLay 107 = .inr (0, 64, none) := rfl
theorem la_108 : sLay 108 = .inr (0, 8, none) := rfl
theorem la_109 : sLay 109 = .inr (7, 1, none) := rfl
theorem la_110 : sLay 110 = .inl (10, [(0, 0, 0), (1, 2, 111), (2, 0, 0), (3, 0, 0), (4, 2, 112), (5, 2, 113), (6, 2, 114), (7, 2, 115), (8, 2, 116), (9, 2, 117), (10, 2, 118), (11, 2, 119), (12, 2, 120), (13, 2, 121), (14, 2, 122), (15, 2, 123), (16, 2, 124), (17, 2, 125), (18, 2, 126), (19, 0, 0), (20, 2, 127), (21, 0, 0), (22, 2, 128), (23, 0, 0), (24, 2, 129), (25, 0, 0), (26, 2, 130), (27, 2, 131), (28, 2, 132), (29, 2, 133), (30, 2, 134), (31, 0, 0), (32, 0, 0), (33, 2, 135), (34, 2, 136), (35, 2, 137), (36, 2, 138), (37, 0, 0)]) := rfl
theorem la_111 : sLay 111 = .inr (0, 416, none) := rfl
theorem la_112 : sLay 112 = .inr (0, 3, none) := rfl
theorem la_113 : sLay 113 = .inr (0, 3, none) := rfl
theorem la_114 : sLay 114 = .inr (0, 24, none) := rfl
theorem la_115 : sLay 115 = .inr (1, 192, none) := rfl
theorem la_116 : sLay 116 = .inr (0, 192, none) := rfl
theorem la_117 : sLay 117 = .inr (1, 2, none) := rfl
theorem la_118 : sLay 118 = .inr (0, 3, none) := rfl
theorem la_119 : sLay 119 = .inr (1, 192, none) := rfl
theorem la_120 : sLay 120 = .inr (1, 192, none) := rfl
theorem la_121 : sLay 121 = .inr (0, 192, none) := rfl
theorem la_122 : sLay 122 = .inr (0, 3, none) := rfl
theorem la_123 : sLay 123 = .inr (1, 576, none) := rfl
theorem la_124 : sLay 124 = .inr (1, 576, none) := rfl
theorem la_125 : sLay 125 = .inr (0, 576, none) := rfl
theorem la_126 : sLay 126 = .inr (0, 3, none) := rfl
theorem la_127 : sLay 127 = .inr (2, 60, none) := rfl
theorem la_128 : sLay 128 = .inr (2, 1024, none) := rfl
theorem la_129 : sLay 129 = .inr (0, 32, none) := rfl
theorem la_130 : sLay 130 = .inr (0, 8, none) := rfl
theorem la_131 : sLay 131 = .inr (1, 64, none) := rfl
theorem la_132 : sLay 132 = .inr (0, 64, none) := rfl
theorem la_133 : sLay 133 = .inr (0, 64, none) := rfl
theorem la_134 : sLay 134 = .inr (0, 64, none) := rfl
theorem la_135 : sLay 135 = .inr (1, 8, none) := rfl
theorem la_136 : sLay 136 = .inr (1, 64, none) := rfl
theorem la_137 : sLay 137 = .inr (0, 64, none) := rfl
theorem la_138 : sLay 138 = .inr (0, 13, none) := rfl
theorem la_139 : sLay 139 = .inr (0, 8, none) := rfl
def s_nest : List (String × Nat × MethodName × String) := [(RX9, 9, yX1_init, RX9), (RX9, 18, yX8_init, RX9), (RX9, 28, yX0_init, RX9), (RX9, 35, yX5_init, RX9), (RX9, 64, yX2_init, RX9), (RX9, 71, yX4_init, RX9), (RX9, 78, yX3_init, RX9), (RX9, 85, yX6_init, RX9), (RX7, 11, yX0_init, RX9), (RX0, 34, yX9_isIn, RX9), (RX0, 22, yX9_setOf, RX9), (RX8, 49, yX9_isIn, RX9), (RX8, 53, yX9_setOf, RX9), (RX6, 45, yX9_isIn, RX9), (RX6, 52, yX9_setOf, RX9)]
def s_text : List (String × Nat × String) := [(RX9, 350, "the file is closed"), (RX9, 119, "no slot is idle"), (RX9, 352, "no such number or index"), (RX9, 354, "the key is out of range"), (RX9, 132, "the value is out of range"), (RX9, 358, "the slot is not active"), (RX9, 362, "the view has no record with the key"), (RX9, 360, "the slot is idle"), (RX9, 169, "the slot has all its marks"), (RX9, 176, "the slot has no marks"), (RX9, 188, "the input is full"), (RX9, 231, "no such index of the output"), (RX9, 244, "fewer blocks than -1"), (RX9, 246, "no slot is ready"), (RX9, 251, "the commit numbers are used up"), (RX9, 264, "there are not enough free blocks"), (RX9, 278, "no root is usable"), (RX9, 394, "the version has no record with the key"), (RX9, 295, "the lowest key is greater than the highest"), (RX9, 356, "what is out of range"), (RX9, 318, "no pin is unused"), (RX9, 364, "the pin is unused"), (RX9, 327, "no such index of a different key")]
def s_exc : List String := ["java/lang/IllegalStateException", "java/lang/IllegalArgumentException", "java/lang/IndexOutOfBoundsException", "java/util/NoSuchElementException", "java/lang/UnsupportedOperationException"]
def isVer (a : Nat) : Prop := a = 36 ∨ a = 39 ∨ a = 42 ∨ a = 45
theorem isVer_0 {a : Nat} (h : isVer a) : sLay a = .inl (8, [(0, 2, a + 1), (1, 2, a + 2), (2, 1, 0), (3, 0, 0), (4, 0, 0), (5, 0, 0)]) := by
  rcases h with rfl | rfl | rfl | rfl <;> rfl
theorem isVer_1 {a : Nat} (h : isVer a) : sLay (a + 1) = .inr (0, 8, none) := by
  rcases h with rfl | rfl | rfl | rfl <;> rfl
theorem isVer_2 {a : Nat} (h : isVer a) : sLay (a + 2) = .inr (0, 64, none) := by
  rcases h with rfl | rfl | rfl | rfl <;> rfl
theorem isVer_b {a : Nat} (h : isVer a) : 36 ≤ a ∧ a ≤ 45 := by
  unfold isVer at h; omega
def isChg (a : Nat) : Prop := a = 50 ∨ a = 55 ∨ a = 58 ∨ a = 60 ∨ a = 62 ∨ a = 65 ∨ a = 68 ∨ a = 70 ∨ a = 72 ∨ a = 75 ∨ a = 78 ∨ a = 80 ∨ a = 82
theorem isChg_0 {a : Nat} (h : isChg a) : sLay a = .inl (0, [(0, 2, a + 1), (1, 1, 0), (2, 1, 0)]) := by
  rcases h with rfl | rfl | rfl | rfl | rfl | rfl | rfl | rfl | rfl | rfl | rfl | rfl | rfl <;> rfl
theorem isChg_1 {a : Nat} (h : isChg a) : sLay (a + 1) = .inr (0, 64, none) := by
  rcases h with rfl | rfl | rfl | rfl | rfl | rfl | rfl | rfl | rfl | rfl | rfl | rfl | rfl <;> rfl
theorem isChg_b {a : Nat} (h : isChg a) : 50 ≤ a ∧ a ≤ 82 := by
  unfold isChg at h; omega
def isSlt (a : Nat) : Prop := a = 54 ∨ a = 64 ∨ a = 74
theorem isSlt_0 {a : Nat} (h : isSlt a) : sLay a = .inl (7, [(0, 2, a + 1), (1, 2, a + 3), (2, 0, 0), (3, 0, 0)]) := by
  rcases h with rfl | rfl | rfl <;> rfl
theorem isSlt_3 {a : Nat} (h : isSlt a) : sLay (a + 3) = .inr (4, 3, some (a + 4, 2)) := by
  rcases h with rfl | rfl | rfl <;> rfl
theorem isSlt_b {a : Nat} (h : isSlt a) : 54 ≤ a ∧ a ≤ 74 := by
  unfold isSlt at h; omega
theorem isSlt_c {a : Nat} (h : isSlt a) : isChg (a + 1) := by
  unfold isSlt at h; unfold isChg; omega
theorem isSlt_m {a j : Nat} (h : isSlt a) (hj : j < 3) : isChg (a + 4 + 2 * j) := by
  unfold isSlt at h; unfold isChg; omega
theorem isSlt_s {j : Nat} (hj : j < 3) : isSlt (54 + 10 * j) := by
  unfold isSlt; omega
theorem isVer_p {j : Nat} (hj : j < 2) : isVer (42 + 3 * j) := by
  unfold isVer; omega
def isRow (a : Nat) : Prop := 3 ≤ a ∧ a ≤ 35
theorem isRow_0 {a : Nat} (h : isRow a) : sLay a = .inr (0, 13, none) := by
  obtain ⟨h1, h2⟩ := h
  obtain rfl | rfl | rfl | rfl | rfl | rfl | rfl | rfl | rfl | rfl | rfl | rfl | rfl | rfl | rfl | rfl | rfl | rfl | rfl | rfl | rfl | rfl | rfl | rfl | rfl | rfl | rfl | rfl | rfl | rfl | rfl | rfl | rfl : a = 3 ∨ a = 4 ∨ a = 5 ∨ a = 6 ∨ a = 7 ∨ a = 8 ∨ a = 9 ∨ a = 10 ∨ a = 11 ∨ a = 12 ∨ a = 13 ∨ a = 14 ∨ a = 15 ∨ a = 16 ∨ a = 17 ∨ a = 18 ∨ a = 19 ∨ a = 20 ∨ a = 21 ∨ a = 22 ∨ a = 23 ∨ a = 24 ∨ a = 25 ∨ a = 26 ∨ a = 27 ∨ a = 28 ∨ a = 29 ∨ a = 30 ∨ a = 31 ∨ a = 32 ∨ a = 33 ∨ a = 34 ∨ a = 35 := by omega
  all_goals rfl
theorem isRow_b {a : Nat} (h : isRow a) : 3 ≤ a ∧ a ≤ 35 := h
theorem isRow_d {j : Nat} (hj : j < 32) : isRow (4 + 1 * j) := by
  unfold isRow; omega
def isLog (a : Nat) : Prop := 96 ≤ a ∧ a ≤ 103
theorem isLog_0 {a : Nat} (h : isLog a) : sLay a = .inr (0, 4, none) := by
  obtain ⟨h1, h2⟩ := h
  obtain rfl | rfl | rfl | rfl | rfl | rfl | rfl | rfl : a = 96 ∨ a = 97 ∨ a = 98 ∨ a = 99 ∨ a = 100 ∨ a = 101 ∨ a = 102 ∨ a = 103 := by omega
  all_goals rfl
theorem isLog_b {a : Nat} (h : isLog a) : 96 ≤ a ∧ a ≤ 103 := h
theorem isLog_d {j : Nat} (hj : j < 8) : isLog (96 + 1 * j) := by
  unfold isLog; omega
