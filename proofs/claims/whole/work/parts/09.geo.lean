abbrev NN : Nat := 157
/-- the cells of the system once it stands: kind and length -/
def TT : hz_T := fun a => [(0, 0), (10, 11), (8, 6), (12, 150), (7, 8), (13, 48), (13, 64), (13, 64), (13, 6), (13, 6), (13, 42), (13, 384), (2, 13), (13, 64), (13, 64), (13, 6), (13, 6), (13, 6), (13, 6), (3, 5), (13, 6), (16, 8), (17, 6), (6, 0), (4, 0), (9, 0), (0, 0), (5, 0), (1, 0), (3, 5), (13, 6), (3, 5), (13, 6), (3, 5), (13, 6), (3, 5), (13, 6), (3, 5), (13, 6), (3, 5), (13, 6), (3, 5), (13, 6), (3, 5), (13, 6), (2, 13), (13, 64), (13, 64), (13, 6), (13, 6), (13, 6), (13, 6), (3, 5), (13, 6), (16, 8), (17, 6), (6, 0), (4, 0), (9, 0), (0, 0), (5, 0), (1, 0), (3, 5), (13, 6), (3, 5), (13, 6), (3, 5), (13, 6), (3, 5), (13, 6), (3, 5), (13, 6), (3, 5), (13, 6), (3, 5), (13, 6), (3, 5), (13, 6), (15, 2), (2, 13), (13, 64), (13, 64), (13, 6), (13, 6), (13, 6), (13, 6), (3, 5), (13, 6), (16, 8), (17, 6), (6, 0), (4, 0), (9, 0), (0, 0), (5, 0), (1, 0), (3, 5), (13, 6), (3, 5), (13, 6), (3, 5), (13, 6), (3, 5), (13, 6), (3, 5), (13, 6), (3, 5), (13, 6), (3, 5), (13, 6), (3, 5), (13, 6), (2, 13), (13, 64), (13, 64), (13, 6), (13, 6), (13, 6), (13, 6), (3, 5), (13, 6), (16, 8), (17, 6), (6, 0), (4, 0), (9, 0), (0, 0), (5, 0), (1, 0), (3, 5), (13, 6), (3, 5), (13, 6), (3, 5), (13, 6), (3, 5), (13, 6), (3, 5), (13, 6), (3, 5), (13, 6), (3, 5), (13, 6), (3, 5), (13, 6), (14, 2), (11, 21), (13, 181), (13, 181), (13, 362), (14, 2), (13, 3), (13, 150), (13, 64), (13, 64), (13, 64), (13, 6), (13, 6)].getD a (0, 0)
theorem hT1 : TT 1 = (10, 11) := by decide +kernel
theorem hA1 : (1 : Nat) ≠ 0 ∧ 1 ≤ NN := by decide +kernel
theorem hT2 : TT 2 = (8, 6) := by decide +kernel
theorem hA2 : (2 : Nat) ≠ 0 ∧ 2 ≤ NN := by decide +kernel
theorem hT3 : TT 3 = (12, 150) := by decide +kernel
theorem hA3 : (3 : Nat) ≠ 0 ∧ 3 ≤ NN := by decide +kernel
theorem hT4 : TT 4 = (7, 8) := by decide +kernel
theorem hA4 : (4 : Nat) ≠ 0 ∧ 4 ≤ NN := by decide +kernel
theorem hT5 : TT 5 = (13, 48) := by decide +kernel
theorem hA5 : (5 : Nat) ≠ 0 ∧ 5 ≤ NN := by decide +kernel
theorem hT6 : TT 6 = (13, 64) := by decide +kernel
theorem hA6 : (6 : Nat) ≠ 0 ∧ 6 ≤ NN := by decide +kernel
theorem hT7 : TT 7 = (13, 64) := by decide +kernel
theorem hA7 : (7 : Nat) ≠ 0 ∧ 7 ≤ NN := by decide +kernel
theorem hT8 : TT 8 = (13, 6) := by decide +kernel
theorem hA8 : (8 : Nat) ≠ 0 ∧ 8 ≤ NN := by decide +kernel
theorem hT9 : TT 9 = (13, 6) := by decide +kernel
theorem hA9 : (9 : Nat) ≠ 0 ∧ 9 ≤ NN := by decide +kernel
theorem hT10 : TT 10 = (13, 42) := by decide +kernel
theorem hA10 : (10 : Nat) ≠ 0 ∧ 10 ≤ NN := by decide +kernel
theorem hT11 : TT 11 = (13, 384) := by decide +kernel
theorem hA11 : (11 : Nat) ≠ 0 ∧ 11 ≤ NN := by decide +kernel
theorem hT12 : TT 12 = (2, 13) := by decide +kernel
theorem hA12 : (12 : Nat) ≠ 0 ∧ 12 ≤ NN := by decide +kernel
theorem hT13 : TT 13 = (13, 64) := by decide +kernel
theorem hA13 : (13 : Nat) ≠ 0 ∧ 13 ≤ NN := by decide +kernel
theorem hT14 : TT 14 = (13, 64) := by decide +kernel
theorem hA14 : (14 : Nat) ≠ 0 ∧ 14 ≤ NN := by decide +kernel
theorem hT15 : TT 15 = (13, 6) := by decide +kernel
theorem hA15 : (15 : Nat) ≠ 0 ∧ 15 ≤ NN := by decide +kernel
theorem hT16 : TT 16 = (13, 6) := by decide +kernel
theorem hA16 : (16 : Nat) ≠ 0 ∧ 16 ≤ NN := by decide +kernel
theorem hT17 : TT 17 = (13, 6) := by decide +kernel
theorem hA17 : (17 : Nat) ≠ 0 ∧ 17 ≤ NN := by decide +kernel
theorem hT18 : TT 18 = (13, 6) := by decide +kernel
theorem hA18 : (18 : Nat) ≠ 0 ∧ 18 ≤ NN := by decide +kernel
theorem hT19 : TT 19 = (3, 5) := by decide +kernel
theorem hA19 : (19 : Nat) ≠ 0 ∧ 19 ≤ NN := by decide +kernel
theorem hT20 : TT 20 = (13, 6) := by decide +kernel
theorem hA20 : (20 : Nat) ≠ 0 ∧ 20 ≤ NN := by decide +kernel
theorem hT21 : TT 21 = (16, 8) := by decide +kernel
theorem hA21 : (21 : Nat) ≠ 0 ∧ 21 ≤ NN := by decide +kernel
theorem hT22 : TT 22 = (17, 6) := by decide +kernel
theorem hA22 : (22 : Nat) ≠ 0 ∧ 22 ≤ NN := by decide +kernel
theorem hT23 : TT 23 = (6, 0) := by decide +kernel
theorem hA23 : (23 : Nat) ≠ 0 ∧ 23 ≤ NN := by decide +kernel
theorem hT24 : TT 24 = (4, 0) := by decide +kernel
theorem hA24 : (24 : Nat) ≠ 0 ∧ 24 ≤ NN := by decide +kernel
theorem hT25 : TT 25 = (9, 0) := by decide +kernel
theorem hA25 : (25 : Nat) ≠ 0 ∧ 25 ≤ NN := by decide +kernel
theorem hT26 : TT 26 = (0, 0) := by decide +kernel
theorem hA26 : (26 : Nat) ≠ 0 ∧ 26 ≤ NN := by decide +kernel
theorem hT27 : TT 27 = (5, 0) := by decide +kernel
theorem hA27 : (27 : Nat) ≠ 0 ∧ 27 ≤ NN := by decide +kernel
theorem hT28 : TT 28 = (1, 0) := by decide +kernel
theorem hA28 : (28 : Nat) ≠ 0 ∧ 28 ≤ NN := by decide +kernel
theorem hT29 : TT 29 = (3, 5) := by decide +kernel
theorem hA29 : (29 : Nat) ≠ 0 ∧ 29 ≤ NN := by decide +kernel
theorem hT30 : TT 30 = (13, 6) := by decide +kernel
theorem hA30 : (30 : Nat) ≠ 0 ∧ 30 ≤ NN := by decide +kernel
theorem hT31 : TT 31 = (3, 5) := by decide +kernel
theorem hA31 : (31 : Nat) ≠ 0 ∧ 31 ≤ NN := by decide +kernel
theorem hT32 : TT 32 = (13, 6) := by decide +kernel
theorem hA32 : (32 : Nat) ≠ 0 ∧ 32 ≤ NN := by decide +kernel
theorem hT33 : TT 33 = (3, 5) := by decide +kernel
theorem hA33 : (33 : Nat) ≠ 0 ∧ 33 ≤ NN := by decide +kernel
theorem hT34 : TT 34 = (13, 6) := by decide +kernel
theorem hA34 : (34 : Nat) ≠ 0 ∧ 34 ≤ NN := by decide +kernel
theorem hT35 : TT 35 = (3, 5) := by decide +kernel
theorem hA35 : (35 : Nat) ≠ 0 ∧ 35 ≤ NN := by decide +kernel
theorem hT36 : TT 36 = (13, 6) := by decide +kernel
theorem hA36 : (36 : Nat) ≠ 0 ∧ 36 ≤ NN := by decide +kernel
theorem hT37 : TT 37 = (3, 5) := by decide +kernel
theorem hA37 : (37 : Nat) ≠ 0 ∧ 37 ≤ NN := by decide +kernel
theorem hT38 : TT 38 = (13, 6) := by decide +kernel
theorem hA38 : (38 : Nat) ≠ 0 ∧ 38 ≤ NN := by decide +kernel
theorem hT39 : TT 39 = (3, 5) := by decide +kernel
theorem hA39 : (39 : Nat) ≠ 0 ∧ 39 ≤ NN := by decide +kernel
theorem hT40 : TT 40 = (13, 6) := by decide +kernel
theorem hA40 : (40 : Nat) ≠ 0 ∧ 40 ≤ NN := by decide +kernel
theorem hT41 : TT 41 = (3, 5) := by decide +kernel
theorem hA41 : (41 : Nat) ≠ 0 ∧ 41 ≤ NN := by decide +kernel
theorem hT42 : TT 42 = (13, 6) := by decide +kernel
theorem hA42 : (42 : Nat) ≠ 0 ∧ 42 ≤ NN := by decide +kernel
theorem hT43 : TT 43 = (3, 5) := by decide +kernel
theorem hA43 : (43 : Nat) ≠ 0 ∧ 43 ≤ NN := by decide +kernel
theorem hT44 : TT 44 = (13, 6) := by decide +kernel
theorem hA44 : (44 : Nat) ≠ 0 ∧ 44 ≤ NN := by decide +kernel
theorem hT45 : TT 45 = (2, 13) := by decide +kernel
theorem hA45 : (45 : Nat) ≠ 0 ∧ 45 ≤ NN := by decide +kernel
theorem hT46 : TT 46 = (13, 64) := by decide +kernel
theorem hA46 : (46 : Nat) ≠ 0 ∧ 46 ≤ NN := by decide +kernel
theorem hT47 : TT 47 = (13, 64) := by decide +kernel
theorem hA47 : (47 : Nat) ≠ 0 ∧ 47 ≤ NN := by decide +kernel
theorem hT48 : TT 48 = (13, 6) := by decide +kernel
theorem hA48 : (48 : Nat) ≠ 0 ∧ 48 ≤ NN := by decide +kernel
theorem hT49 : TT 49 = (13, 6) := by decide +kernel
theorem hA49 : (49 : Nat) ≠ 0 ∧ 49 ≤ NN := by decide +kernel
theorem hT50 : TT 50 = (13, 6) := by decide +kernel
theorem hA50 : (50 : Nat) ≠ 0 ∧ 50 ≤ NN := by decide +kernel
theorem hT51 : TT 51 = (13, 6) := by decide +kernel
theorem hA51 : (51 : Nat) ≠ 0 ∧ 51 ≤ NN := by decide +kernel
theorem hT52 : TT 52 = (3, 5) := by decide +kernel
theorem hA52 : (52 : Nat) ≠ 0 ∧ 52 ≤ NN := by decide +kernel
theorem hT53 : TT 53 = (13, 6) := by decide +kernel
theorem hA53 : (53 : Nat) ≠ 0 ∧ 53 ≤ NN := by decide +kernel
theorem hT54 : TT 54 = (16, 8) := by decide +kernel
theorem hA54 : (54 : Nat) ≠ 0 ∧ 54 ≤ NN := by decide +kernel
theorem hT55 : TT 55 = (17, 6) := by decide +kernel
theorem hA55 : (55 : Nat) ≠ 0 ∧ 55 ≤ NN := by decide +kernel
theorem hT56 : TT 56 = (6, 0) := by decide +kernel
theorem hA56 : (56 : Nat) ≠ 0 ∧ 56 ≤ NN := by decide +kernel
theorem hT57 : TT 57 = (4, 0) := by decide +kernel
theorem hA57 : (57 : Nat) ≠ 0 ∧ 57 ≤ NN := by decide +kernel
theorem hT58 : TT 58 = (9, 0) := by decide +kernel
theorem hA58 : (58 : Nat) ≠ 0 ∧ 58 ≤ NN := by decide +kernel
theorem hT59 : TT 59 = (0, 0) := by decide +kernel
theorem hA59 : (59 : Nat) ≠ 0 ∧ 59 ≤ NN := by decide +kernel
theorem hT60 : TT 60 = (5, 0) := by decide +kernel
theorem hA60 : (60 : Nat) ≠ 0 ∧ 60 ≤ NN := by decide +kernel
theorem hT61 : TT 61 = (1, 0) := by decide +kernel
theorem hA61 : (61 : Nat) ≠ 0 ∧ 61 ≤ NN := by decide +kernel
theorem hT62 : TT 62 = (3, 5) := by decide +kernel
theorem hA62 : (62 : Nat) ≠ 0 ∧ 62 ≤ NN := by decide +kernel
theorem hT63 : TT 63 = (13, 6) := by decide +kernel
theorem hA63 : (63 : Nat) ≠ 0 ∧ 63 ≤ NN := by decide +kernel
theorem hT64 : TT 64 = (3, 5) := by decide +kernel
theorem hA64 : (64 : Nat) ≠ 0 ∧ 64 ≤ NN := by decide +kernel
theorem hT65 : TT 65 = (13, 6) := by decide +kernel
theorem hA65 : (65 : Nat) ≠ 0 ∧ 65 ≤ NN := by decide +kernel
theorem hT66 : TT 66 = (3, 5) := by decide +kernel
theorem hA66 : (66 : Nat) ≠ 0 ∧ 66 ≤ NN := by decide +kernel
theorem hT67 : TT 67 = (13, 6) := by decide +kernel
theorem hA67 : (67 : Nat) ≠ 0 ∧ 67 ≤ NN := by decide +kernel
theorem hT68 : TT 68 = (3, 5) := by decide +kernel
theorem hA68 : (68 : Nat) ≠ 0 ∧ 68 ≤ NN := by decide +kernel
theorem hT69 : TT 69 = (13, 6) := by decide +kernel
theorem hA69 : (69 : Nat) ≠ 0 ∧ 69 ≤ NN := by decide +kernel
theorem hT70 : TT 70 = (3, 5) := by decide +kernel
theorem hA70 : (70 : Nat) ≠ 0 ∧ 70 ≤ NN := by decide +kernel
theorem hT71 : TT 71 = (13, 6) := by decide +kernel
theorem hA71 : (71 : Nat) ≠ 0 ∧ 71 ≤ NN := by decide +kernel
theorem hT72 : TT 72 = (3, 5) := by decide +kernel
theorem hA72 : (72 : Nat) ≠ 0 ∧ 72 ≤ NN := by decide +kernel
theorem hT73 : TT 73 = (13, 6) := by decide +kernel
theorem hA73 : (73 : Nat) ≠ 0 ∧ 73 ≤ NN := by decide +kernel
theorem hT74 : TT 74 = (3, 5) := by decide +kernel
theorem hA74 : (74 : Nat) ≠ 0 ∧ 74 ≤ NN := by decide +kernel
theorem hT75 : TT 75 = (13, 6) := by decide +kernel
theorem hA75 : (75 : Nat) ≠ 0 ∧ 75 ≤ NN := by decide +kernel
theorem hT76 : TT 76 = (3, 5) := by decide +kernel
theorem hA76 : (76 : Nat) ≠ 0 ∧ 76 ≤ NN := by decide +kernel
theorem hT77 : TT 77 = (13, 6) := by decide +kernel
theorem hA77 : (77 : Nat) ≠ 0 ∧ 77 ≤ NN := by decide +kernel
theorem hT78 : TT 78 = (15, 2) := by decide +kernel
theorem hA78 : (78 : Nat) ≠ 0 ∧ 78 ≤ NN := by decide +kernel
theorem hT79 : TT 79 = (2, 13) := by decide +kernel
theorem hA79 : (79 : Nat) ≠ 0 ∧ 79 ≤ NN := by decide +kernel
theorem hT80 : TT 80 = (13, 64) := by decide +kernel
theorem hA80 : (80 : Nat) ≠ 0 ∧ 80 ≤ NN := by decide +kernel
theorem hT81 : TT 81 = (13, 64) := by decide +kernel
theorem hA81 : (81 : Nat) ≠ 0 ∧ 81 ≤ NN := by decide +kernel
theorem hT82 : TT 82 = (13, 6) := by decide +kernel
theorem hA82 : (82 : Nat) ≠ 0 ∧ 82 ≤ NN := by decide +kernel
theorem hT83 : TT 83 = (13, 6) := by decide +kernel
theorem hA83 : (83 : Nat) ≠ 0 ∧ 83 ≤ NN := by decide +kernel
theorem hT84 : TT 84 = (13, 6) := by decide +kernel
theorem hA84 : (84 : Nat) ≠ 0 ∧ 84 ≤ NN := by decide +kernel
theorem hT85 : TT 85 = (13, 6) := by decide +kernel
theorem hA85 : (85 : Nat) ≠ 0 ∧ 85 ≤ NN := by decide +kernel
theorem hT86 : TT 86 = (3, 5) := by decide +kernel
theorem hA86 : (86 : Nat) ≠ 0 ∧ 86 ≤ NN := by decide +kernel
theorem hT87 : TT 87 = (13, 6) := by decide +kernel
theorem hA87 : (87 : Nat) ≠ 0 ∧ 87 ≤ NN := by decide +kernel
theorem hT88 : TT 88 = (16, 8) := by decide +kernel
theorem hA88 : (88 : Nat) ≠ 0 ∧ 88 ≤ NN := by decide +kernel
theorem hT89 : TT 89 = (17, 6) := by decide +kernel
theorem hA89 : (89 : Nat) ≠ 0 ∧ 89 ≤ NN := by decide +kernel
theorem hT90 : TT 90 = (6, 0) := by decide +kernel
theorem hA90 : (90 : Nat) ≠ 0 ∧ 90 ≤ NN := by decide +kernel
theorem hT91 : TT 91 = (4, 0) := by decide +kernel
theorem hA91 : (91 : Nat) ≠ 0 ∧ 91 ≤ NN := by decide +kernel
theorem hT92 : TT 92 = (9, 0) := by decide +kernel
theorem hA92 : (92 : Nat) ≠ 0 ∧ 92 ≤ NN := by decide +kernel
theorem hT93 : TT 93 = (0, 0) := by decide +kernel
theorem hA93 : (93 : Nat) ≠ 0 ∧ 93 ≤ NN := by decide +kernel
theorem hT94 : TT 94 = (5, 0) := by decide +kernel
theorem hA94 : (94 : Nat) ≠ 0 ∧ 94 ≤ NN := by decide +kernel
theorem hT95 : TT 95 = (1, 0) := by decide +kernel
theorem hA95 : (95 : Nat) ≠ 0 ∧ 95 ≤ NN := by decide +kernel
theorem hT96 : TT 96 = (3, 5) := by decide +kernel
theorem hA96 : (96 : Nat) ≠ 0 ∧ 96 ≤ NN := by decide +kernel
theorem hT97 : TT 97 = (13, 6) := by decide +kernel
theorem hA97 : (97 : Nat) ≠ 0 ∧ 97 ≤ NN := by decide +kernel
theorem hT98 : TT 98 = (3, 5) := by decide +kernel
theorem hA98 : (98 : Nat) ≠ 0 ∧ 98 ≤ NN := by decide +kernel
theorem hT99 : TT 99 = (13, 6) := by decide +kernel
theorem hA99 : (99 : Nat) ≠ 0 ∧ 99 ≤ NN := by decide +kernel
theorem hT100 : TT 100 = (3, 5) := by decide +kernel
theorem hA100 : (100 : Nat) ≠ 0 ∧ 100 ≤ NN := by decide +kernel
theorem hT101 : TT 101 = (13, 6) := by decide +kernel
theorem hA101 : (101 : Nat) ≠ 0 ∧ 101 ≤ NN := by decide +kernel
theorem hT102 : TT 102 = (3, 5) := by decide +kernel
theorem hA102 : (102 : Nat) ≠ 0 ∧ 102 ≤ NN := by decide +kernel
theorem hT103 : TT 103 = (13, 6) := by decide +kernel
theorem hA103 : (103 : Nat) ≠ 0 ∧ 103 ≤ NN := by decide +kernel
theorem hT104 : TT 104 = (3, 5) := by decide +kernel
theorem hA104 : (104 : Nat) ≠ 0 ∧ 104 ≤ NN := by decide +kernel
theorem hT105 : TT 105 = (13, 6) := by decide +kernel
theorem hA105 : (105 : Nat) ≠ 0 ∧ 105 ≤ NN := by decide +kernel
theorem hT106 : TT 106 = (3, 5) := by decide +kernel
theorem hA106 : (106 : Nat) ≠ 0 ∧ 106 ≤ NN := by decide +kernel
theorem hT107 : TT 107 = (13, 6) := by decide +kernel
theorem hA107 : (107 : Nat) ≠ 0 ∧ 107 ≤ NN := by decide +kernel
theorem hT108 : TT 108 = (3, 5) := by decide +kernel
theorem hA108 : (108 : Nat) ≠ 0 ∧ 108 ≤ NN := by decide +kernel
theorem hT109 : TT 109 = (13, 6) := by decide +kernel
theorem hA109 : (109 : Nat) ≠ 0 ∧ 109 ≤ NN := by decide +kernel
theorem hT110 : TT 110 = (3, 5) := by decide +kernel
theorem hA110 : (110 : Nat) ≠ 0 ∧ 110 ≤ NN := by decide +kernel
theorem hT111 : TT 111 = (13, 6) := by decide +kernel
theorem hA111 : (111 : Nat) ≠ 0 ∧ 111 ≤ NN := by decide +kernel
theorem hT112 : TT 112 = (2, 13) := by decide +kernel
theorem hA112 : (112 : Nat) ≠ 0 ∧ 112 ≤ NN := by decide +kernel
theorem hT113 : TT 113 = (13, 64) := by decide +kernel
theorem hA113 : (113 : Nat) ≠ 0 ∧ 113 ≤ NN := by decide +kernel
theorem hT114 : TT 114 = (13, 64) := by decide +kernel
theorem hA114 : (114 : Nat) ≠ 0 ∧ 114 ≤ NN := by decide +kernel
theorem hT115 : TT 115 = (13, 6) := by decide +kernel
theorem hA115 : (115 : Nat) ≠ 0 ∧ 115 ≤ NN := by decide +kernel
theorem hT116 : TT 116 = (13, 6) := by decide +kernel
theorem hA116 : (116 : Nat) ≠ 0 ∧ 116 ≤ NN := by decide +kernel
theorem hT117 : TT 117 = (13, 6) := by decide +kernel
theorem hA117 : (117 : Nat) ≠ 0 ∧ 117 ≤ NN := by decide +kernel
theorem hT118 : TT 118 = (13, 6) := by decide +kernel
theorem hA118 : (118 : Nat) ≠ 0 ∧ 118 ≤ NN := by decide +kernel
theorem hT119 : TT 119 = (3, 5) := by decide +kernel
theorem hA119 : (119 : Nat) ≠ 0 ∧ 119 ≤ NN := by decide +kernel
theorem hT120 : TT 120 = (13, 6) := by decide +kernel
theorem hA120 : (120 : Nat) ≠ 0 ∧ 120 ≤ NN := by decide +kernel
theorem hT121 : TT 121 = (16, 8) := by decide +kernel
theorem hA121 : (121 : Nat) ≠ 0 ∧ 121 ≤ NN := by decide +kernel
theorem hT122 : TT 122 = (17, 6) := by decide +kernel
theorem hA122 : (122 : Nat) ≠ 0 ∧ 122 ≤ NN := by decide +kernel
theorem hT123 : TT 123 = (6, 0) := by decide +kernel
theorem hA123 : (123 : Nat) ≠ 0 ∧ 123 ≤ NN := by decide +kernel
theorem hT124 : TT 124 = (4, 0) := by decide +kernel
theorem hA124 : (124 : Nat) ≠ 0 ∧ 124 ≤ NN := by decide +kernel
theorem hT125 : TT 125 = (9, 0) := by decide +kernel
theorem hA125 : (125 : Nat) ≠ 0 ∧ 125 ≤ NN := by decide +kernel
theorem hT126 : TT 126 = (0, 0) := by decide +kernel
theorem hA126 : (126 : Nat) ≠ 0 ∧ 126 ≤ NN := by decide +kernel
theorem hT127 : TT 127 = (5, 0) := by decide +kernel
theorem hA127 : (127 : Nat) ≠ 0 ∧ 127 ≤ NN := by decide +kernel
theorem hT128 : TT 128 = (1, 0) := by decide +kernel
theorem hA128 : (128 : Nat) ≠ 0 ∧ 128 ≤ NN := by decide +kernel
theorem hT129 : TT 129 = (3, 5) := by decide +kernel
theorem hA129 : (129 : Nat) ≠ 0 ∧ 129 ≤ NN := by decide +kernel
theorem hT130 : TT 130 = (13, 6) := by decide +kernel
theorem hA130 : (130 : Nat) ≠ 0 ∧ 130 ≤ NN := by decide +kernel
theorem hT131 : TT 131 = (3, 5) := by decide +kernel
theorem hA131 : (131 : Nat) ≠ 0 ∧ 131 ≤ NN := by decide +kernel
theorem hT132 : TT 132 = (13, 6) := by decide +kernel
theorem hA132 : (132 : Nat) ≠ 0 ∧ 132 ≤ NN := by decide +kernel
theorem hT133 : TT 133 = (3, 5) := by decide +kernel
theorem hA133 : (133 : Nat) ≠ 0 ∧ 133 ≤ NN := by decide +kernel
theorem hT134 : TT 134 = (13, 6) := by decide +kernel
theorem hA134 : (134 : Nat) ≠ 0 ∧ 134 ≤ NN := by decide +kernel
theorem hT135 : TT 135 = (3, 5) := by decide +kernel
theorem hA135 : (135 : Nat) ≠ 0 ∧ 135 ≤ NN := by decide +kernel
theorem hT136 : TT 136 = (13, 6) := by decide +kernel
theorem hA136 : (136 : Nat) ≠ 0 ∧ 136 ≤ NN := by decide +kernel
theorem hT137 : TT 137 = (3, 5) := by decide +kernel
theorem hA137 : (137 : Nat) ≠ 0 ∧ 137 ≤ NN := by decide +kernel
theorem hT138 : TT 138 = (13, 6) := by decide +kernel
theorem hA138 : (138 : Nat) ≠ 0 ∧ 138 ≤ NN := by decide +kernel
theorem hT139 : TT 139 = (3, 5) := by decide +kernel
theorem hA139 : (139 : Nat) ≠ 0 ∧ 139 ≤ NN := by decide +kernel
theorem hT140 : TT 140 = (13, 6) := by decide +kernel
theorem hA140 : (140 : Nat) ≠ 0 ∧ 140 ≤ NN := by decide +kernel
theorem hT141 : TT 141 = (3, 5) := by decide +kernel
theorem hA141 : (141 : Nat) ≠ 0 ∧ 141 ≤ NN := by decide +kernel
theorem hT142 : TT 142 = (13, 6) := by decide +kernel
theorem hA142 : (142 : Nat) ≠ 0 ∧ 142 ≤ NN := by decide +kernel
theorem hT143 : TT 143 = (3, 5) := by decide +kernel
theorem hA143 : (143 : Nat) ≠ 0 ∧ 143 ≤ NN := by decide +kernel
theorem hT144 : TT 144 = (13, 6) := by decide +kernel
theorem hA144 : (144 : Nat) ≠ 0 ∧ 144 ≤ NN := by decide +kernel
theorem hT145 : TT 145 = (14, 2) := by decide +kernel
theorem hA145 : (145 : Nat) ≠ 0 ∧ 145 ≤ NN := by decide +kernel
theorem hT146 : TT 146 = (11, 21) := by decide +kernel
theorem hA146 : (146 : Nat) ≠ 0 ∧ 146 ≤ NN := by decide +kernel
theorem hT147 : TT 147 = (13, 181) := by decide +kernel
theorem hA147 : (147 : Nat) ≠ 0 ∧ 147 ≤ NN := by decide +kernel
theorem hT148 : TT 148 = (13, 181) := by decide +kernel
theorem hA148 : (148 : Nat) ≠ 0 ∧ 148 ≤ NN := by decide +kernel
theorem hT149 : TT 149 = (13, 362) := by decide +kernel
theorem hA149 : (149 : Nat) ≠ 0 ∧ 149 ≤ NN := by decide +kernel
theorem hT150 : TT 150 = (14, 2) := by decide +kernel
theorem hA150 : (150 : Nat) ≠ 0 ∧ 150 ≤ NN := by decide +kernel
theorem hT151 : TT 151 = (13, 3) := by decide +kernel
theorem hA151 : (151 : Nat) ≠ 0 ∧ 151 ≤ NN := by decide +kernel
theorem hT152 : TT 152 = (13, 150) := by decide +kernel
theorem hA152 : (152 : Nat) ≠ 0 ∧ 152 ≤ NN := by decide +kernel
theorem hT153 : TT 153 = (13, 64) := by decide +kernel
theorem hA153 : (153 : Nat) ≠ 0 ∧ 153 ≤ NN := by decide +kernel
theorem hT154 : TT 154 = (13, 64) := by decide +kernel
theorem hA154 : (154 : Nat) ≠ 0 ∧ 154 ≤ NN := by decide +kernel
theorem hT155 : TT 155 = (13, 64) := by decide +kernel
theorem hA155 : (155 : Nat) ≠ 0 ∧ 155 ≤ NN := by decide +kernel
theorem hT156 : TT 156 = (13, 6) := by decide +kernel
theorem hA156 : (156 : Nat) ≠ 0 ∧ 156 ≤ NN := by decide +kernel
theorem hT157 : TT 157 = (13, 6) := by decide +kernel
theorem hA157 : (157 : Nat) ≠ 0 ∧ 157 ≤ NN := by decide +kernel
/-- who refers to whom; the rows of what may be undone (cells 21, 54, 88, 121) may stand in another order -/
def PPt : List (List Nat) := [[], [2, 4, 78, 145, 12, 45], [3], [], [5, 6, 7, 8, 9, 10, 11], [], [], [], [], [], [], [], [22, 13, 14, 15, 16, 17, 18, 19, 21], [], [], [], [], [], [], [20], [], [], [23, 24, 25, 26, 27, 28], [], [], [], [], [], [], [30], [], [32], [], [34], [], [36], [], [38], [], [40], [], [42], [], [44], [], [55, 46, 47, 48, 49, 50, 51, 52, 54], [], [], [], [], [], [], [53], [], [], [56, 57, 58, 59, 60, 61], [], [], [], [], [], [], [63], [], [65], [], [67], [], [69], [], [71], [], [73], [], [75], [], [77], [], [79, 112], [89, 80, 81, 82, 83, 84, 85, 86, 88], [], [], [], [], [], [], [87], [], [], [90, 91, 92, 93, 94, 95], [], [], [], [], [], [], [97], [], [99], [], [101], [], [103], [], [105], [], [107], [], [109], [], [111], [], [122, 113, 114, 115, 116, 117, 118, 119, 121], [], [], [], [], [], [], [120], [], [], [123, 124, 125, 126, 127, 128], [], [], [], [], [], [], [130], [], [132], [], [134], [], [136], [], [138], [], [140], [], [142], [], [144], [], [], [147, 148, 149, 150, 151, 0, 0, 0, 152, 0, 0, 0, 0, 0, 0, 153, 154, 155, 156, 157], [], [], [], [], [], [], [], [], [], [], []]
def PP (q : Nat → Nat → Nat) : Nat → Nat → Nat := fun a => if a = 21 ∨ a = 54 ∨ a = 88 ∨ a = 121 then q a else fun k => (PPt.getD a []).getD k 0
theorem hP1_0 (q : Nat → Nat → Nat) : PP q 1 0 = 2 := by show ((PPt.getD 1 []).getD 0 0) = 2; decide +kernel
theorem hP1_1 (q : Nat → Nat → Nat) : PP q 1 1 = 4 := by show ((PPt.getD 1 []).getD 1 0) = 4; decide +kernel
theorem hP1_2 (q : Nat → Nat → Nat) : PP q 1 2 = 78 := by show ((PPt.getD 1 []).getD 2 0) = 78; decide +kernel
theorem hP1_3 (q : Nat → Nat → Nat) : PP q 1 3 = 145 := by show ((PPt.getD 1 []).getD 3 0) = 145; decide +kernel
theorem hP1_4 (q : Nat → Nat → Nat) : PP q 1 4 = 12 := by show ((PPt.getD 1 []).getD 4 0) = 12; decide +kernel
theorem hP1_5 (q : Nat → Nat → Nat) : PP q 1 5 = 45 := by show ((PPt.getD 1 []).getD 5 0) = 45; decide +kernel
theorem hP2_0 (q : Nat → Nat → Nat) : PP q 2 0 = 3 := by show ((PPt.getD 2 []).getD 0 0) = 3; decide +kernel
theorem hP4_0 (q : Nat → Nat → Nat) : PP q 4 0 = 5 := by show ((PPt.getD 4 []).getD 0 0) = 5; decide +kernel
theorem hP4_1 (q : Nat → Nat → Nat) : PP q 4 1 = 6 := by show ((PPt.getD 4 []).getD 1 0) = 6; decide +kernel
theorem hP4_2 (q : Nat → Nat → Nat) : PP q 4 2 = 7 := by show ((PPt.getD 4 []).getD 2 0) = 7; decide +kernel
theorem hP4_3 (q : Nat → Nat → Nat) : PP q 4 3 = 8 := by show ((PPt.getD 4 []).getD 3 0) = 8; decide +kernel
theorem hP4_4 (q : Nat → Nat → Nat) : PP q 4 4 = 9 := by show ((PPt.getD 4 []).getD 4 0) = 9; decide +kernel
theorem hP4_5 (q : Nat → Nat → Nat) : PP q 4 5 = 10 := by show ((PPt.getD 4 []).getD 5 0) = 10; decide +kernel
theorem hP4_6 (q : Nat → Nat → Nat) : PP q 4 6 = 11 := by show ((PPt.getD 4 []).getD 6 0) = 11; decide +kernel
theorem hP12_0 (q : Nat → Nat → Nat) : PP q 12 0 = 22 := by show ((PPt.getD 12 []).getD 0 0) = 22; decide +kernel
theorem hP12_1 (q : Nat → Nat → Nat) : PP q 12 1 = 13 := by show ((PPt.getD 12 []).getD 1 0) = 13; decide +kernel
theorem hP12_2 (q : Nat → Nat → Nat) : PP q 12 2 = 14 := by show ((PPt.getD 12 []).getD 2 0) = 14; decide +kernel
theorem hP12_3 (q : Nat → Nat → Nat) : PP q 12 3 = 15 := by show ((PPt.getD 12 []).getD 3 0) = 15; decide +kernel
theorem hP12_4 (q : Nat → Nat → Nat) : PP q 12 4 = 16 := by show ((PPt.getD 12 []).getD 4 0) = 16; decide +kernel
theorem hP12_5 (q : Nat → Nat → Nat) : PP q 12 5 = 17 := by show ((PPt.getD 12 []).getD 5 0) = 17; decide +kernel
theorem hP12_6 (q : Nat → Nat → Nat) : PP q 12 6 = 18 := by show ((PPt.getD 12 []).getD 6 0) = 18; decide +kernel
theorem hP12_7 (q : Nat → Nat → Nat) : PP q 12 7 = 19 := by show ((PPt.getD 12 []).getD 7 0) = 19; decide +kernel
theorem hP12_8 (q : Nat → Nat → Nat) : PP q 12 8 = 21 := by show ((PPt.getD 12 []).getD 8 0) = 21; decide +kernel
theorem hP19_0 (q : Nat → Nat → Nat) : PP q 19 0 = 20 := by show ((PPt.getD 19 []).getD 0 0) = 20; decide +kernel
theorem hP22_0 (q : Nat → Nat → Nat) : PP q 22 0 = 23 := by show ((PPt.getD 22 []).getD 0 0) = 23; decide +kernel
theorem hP22_1 (q : Nat → Nat → Nat) : PP q 22 1 = 24 := by show ((PPt.getD 22 []).getD 1 0) = 24; decide +kernel
theorem hP22_2 (q : Nat → Nat → Nat) : PP q 22 2 = 25 := by show ((PPt.getD 22 []).getD 2 0) = 25; decide +kernel
theorem hP22_3 (q : Nat → Nat → Nat) : PP q 22 3 = 26 := by show ((PPt.getD 22 []).getD 3 0) = 26; decide +kernel
theorem hP22_4 (q : Nat → Nat → Nat) : PP q 22 4 = 27 := by show ((PPt.getD 22 []).getD 4 0) = 27; decide +kernel
theorem hP22_5 (q : Nat → Nat → Nat) : PP q 22 5 = 28 := by show ((PPt.getD 22 []).getD 5 0) = 28; decide +kernel
theorem hP29_0 (q : Nat → Nat → Nat) : PP q 29 0 = 30 := by show ((PPt.getD 29 []).getD 0 0) = 30; decide +kernel
theorem hP31_0 (q : Nat → Nat → Nat) : PP q 31 0 = 32 := by show ((PPt.getD 31 []).getD 0 0) = 32; decide +kernel
theorem hP33_0 (q : Nat → Nat → Nat) : PP q 33 0 = 34 := by show ((PPt.getD 33 []).getD 0 0) = 34; decide +kernel
theorem hP35_0 (q : Nat → Nat → Nat) : PP q 35 0 = 36 := by show ((PPt.getD 35 []).getD 0 0) = 36; decide +kernel
theorem hP37_0 (q : Nat → Nat → Nat) : PP q 37 0 = 38 := by show ((PPt.getD 37 []).getD 0 0) = 38; decide +kernel
theorem hP39_0 (q : Nat → Nat → Nat) : PP q 39 0 = 40 := by show ((PPt.getD 39 []).getD 0 0) = 40; decide +kernel
theorem hP41_0 (q : Nat → Nat → Nat) : PP q 41 0 = 42 := by show ((PPt.getD 41 []).getD 0 0) = 42; decide +kernel
theorem hP43_0 (q : Nat → Nat → Nat) : PP q 43 0 = 44 := by show ((PPt.getD 43 []).getD 0 0) = 44; decide +kernel
theorem hP45_0 (q : Nat → Nat → Nat) : PP q 45 0 = 55 := by show ((PPt.getD 45 []).getD 0 0) = 55; decide +kernel
theorem hP45_1 (q : Nat → Nat → Nat) : PP q 45 1 = 46 := by show ((PPt.getD 45 []).getD 1 0) = 46; decide +kernel
theorem hP45_2 (q : Nat → Nat → Nat) : PP q 45 2 = 47 := by show ((PPt.getD 45 []).getD 2 0) = 47; decide +kernel
theorem hP45_3 (q : Nat → Nat → Nat) : PP q 45 3 = 48 := by show ((PPt.getD 45 []).getD 3 0) = 48; decide +kernel
theorem hP45_4 (q : Nat → Nat → Nat) : PP q 45 4 = 49 := by show ((PPt.getD 45 []).getD 4 0) = 49; decide +kernel
theorem hP45_5 (q : Nat → Nat → Nat) : PP q 45 5 = 50 := by show ((PPt.getD 45 []).getD 5 0) = 50; decide +kernel
theorem hP45_6 (q : Nat → Nat → Nat) : PP q 45 6 = 51 := by show ((PPt.getD 45 []).getD 6 0) = 51; decide +kernel
theorem hP45_7 (q : Nat → Nat → Nat) : PP q 45 7 = 52 := by show ((PPt.getD 45 []).getD 7 0) = 52; decide +kernel
theorem hP45_8 (q : Nat → Nat → Nat) : PP q 45 8 = 54 := by show ((PPt.getD 45 []).getD 8 0) = 54; decide +kernel
theorem hP52_0 (q : Nat → Nat → Nat) : PP q 52 0 = 53 := by show ((PPt.getD 52 []).getD 0 0) = 53; decide +kernel
theorem hP55_0 (q : Nat → Nat → Nat) : PP q 55 0 = 56 := by show ((PPt.getD 55 []).getD 0 0) = 56; decide +kernel
theorem hP55_1 (q : Nat → Nat → Nat) : PP q 55 1 = 57 := by show ((PPt.getD 55 []).getD 1 0) = 57; decide +kernel
theorem hP55_2 (q : Nat → Nat → Nat) : PP q 55 2 = 58 := by show ((PPt.getD 55 []).getD 2 0) = 58; decide +kernel
theorem hP55_3 (q : Nat → Nat → Nat) : PP q 55 3 = 59 := by show ((PPt.getD 55 []).getD 3 0) = 59; decide +kernel
theorem hP55_4 (q : Nat → Nat → Nat) : PP q 55 4 = 60 := by show ((PPt.getD 55 []).getD 4 0) = 60; decide +kernel
theorem hP55_5 (q : Nat → Nat → Nat) : PP q 55 5 = 61 := by show ((PPt.getD 55 []).getD 5 0) = 61; decide +kernel
theorem hP62_0 (q : Nat → Nat → Nat) : PP q 62 0 = 63 := by show ((PPt.getD 62 []).getD 0 0) = 63; decide +kernel
theorem hP64_0 (q : Nat → Nat → Nat) : PP q 64 0 = 65 := by show ((PPt.getD 64 []).getD 0 0) = 65; decide +kernel
theorem hP66_0 (q : Nat → Nat → Nat) : PP q 66 0 = 67 := by show ((PPt.getD 66 []).getD 0 0) = 67; decide +kernel
theorem hP68_0 (q : Nat → Nat → Nat) : PP q 68 0 = 69 := by show ((PPt.getD 68 []).getD 0 0) = 69; decide +kernel
theorem hP70_0 (q : Nat → Nat → Nat) : PP q 70 0 = 71 := by show ((PPt.getD 70 []).getD 0 0) = 71; decide +kernel
theorem hP72_0 (q : Nat → Nat → Nat) : PP q 72 0 = 73 := by show ((PPt.getD 72 []).getD 0 0) = 73; decide +kernel
theorem hP74_0 (q : Nat → Nat → Nat) : PP q 74 0 = 75 := by show ((PPt.getD 74 []).getD 0 0) = 75; decide +kernel
theorem hP76_0 (q : Nat → Nat → Nat) : PP q 76 0 = 77 := by show ((PPt.getD 76 []).getD 0 0) = 77; decide +kernel
theorem hP78_0 (q : Nat → Nat → Nat) : PP q 78 0 = 79 := by show ((PPt.getD 78 []).getD 0 0) = 79; decide +kernel
theorem hP78_1 (q : Nat → Nat → Nat) : PP q 78 1 = 112 := by show ((PPt.getD 78 []).getD 1 0) = 112; decide +kernel
theorem hP79_0 (q : Nat → Nat → Nat) : PP q 79 0 = 89 := by show ((PPt.getD 79 []).getD 0 0) = 89; decide +kernel
theorem hP79_1 (q : Nat → Nat → Nat) : PP q 79 1 = 80 := by show ((PPt.getD 79 []).getD 1 0) = 80; decide +kernel
theorem hP79_2 (q : Nat → Nat → Nat) : PP q 79 2 = 81 := by show ((PPt.getD 79 []).getD 2 0) = 81; decide +kernel
theorem hP79_3 (q : Nat → Nat → Nat) : PP q 79 3 = 82 := by show ((PPt.getD 79 []).getD 3 0) = 82; decide +kernel
theorem hP79_4 (q : Nat → Nat → Nat) : PP q 79 4 = 83 := by show ((PPt.getD 79 []).getD 4 0) = 83; decide +kernel
theorem hP79_5 (q : Nat → Nat → Nat) : PP q 79 5 = 84 := by show ((PPt.getD 79 []).getD 5 0) = 84; decide +kernel
theorem hP79_6 (q : Nat → Nat → Nat) : PP q 79 6 = 85 := by show ((PPt.getD 79 []).getD 6 0) = 85; decide +kernel
theorem hP79_7 (q : Nat → Nat → Nat) : PP q 79 7 = 86 := by show ((PPt.getD 79 []).getD 7 0) = 86; decide +kernel
theorem hP79_8 (q : Nat → Nat → Nat) : PP q 79 8 = 88 := by show ((PPt.getD 79 []).getD 8 0) = 88; decide +kernel
theorem hP86_0 (q : Nat → Nat → Nat) : PP q 86 0 = 87 := by show ((PPt.getD 86 []).getD 0 0) = 87; decide +kernel
theorem hP89_0 (q : Nat → Nat → Nat) : PP q 89 0 = 90 := by show ((PPt.getD 89 []).getD 0 0) = 90; decide +kernel
theorem hP89_1 (q : Nat → Nat → Nat) : PP q 89 1 = 91 := by show ((PPt.getD 89 []).getD 1 0) = 91; decide +kernel
theorem hP89_2 (q : Nat → Nat → Nat) : PP q 89 2 = 92 := by show ((PPt.getD 89 []).getD 2 0) = 92; decide +kernel
theorem hP89_3 (q : Nat → Nat → Nat) : PP q 89 3 = 93 := by show ((PPt.getD 89 []).getD 3 0) = 93; decide +kernel
theorem hP89_4 (q : Nat → Nat → Nat) : PP q 89 4 = 94 := by show ((PPt.getD 89 []).getD 4 0) = 94; decide +kernel
theorem hP89_5 (q : Nat → Nat → Nat) : PP q 89 5 = 95 := by show ((PPt.getD 89 []).getD 5 0) = 95; decide +kernel
theorem hP96_0 (q : Nat → Nat → Nat) : PP q 96 0 = 97 := by show ((PPt.getD 96 []).getD 0 0) = 97; decide +kernel
theorem hP98_0 (q : Nat → Nat → Nat) : PP q 98 0 = 99 := by show ((PPt.getD 98 []).getD 0 0) = 99; decide +kernel
theorem hP100_0 (q : Nat → Nat → Nat) : PP q 100 0 = 101 := by show ((PPt.getD 100 []).getD 0 0) = 101; decide +kernel
theorem hP102_0 (q : Nat → Nat → Nat) : PP q 102 0 = 103 := by show ((PPt.getD 102 []).getD 0 0) = 103; decide +kernel
theorem hP104_0 (q : Nat → Nat → Nat) : PP q 104 0 = 105 := by show ((PPt.getD 104 []).getD 0 0) = 105; decide +kernel
theorem hP106_0 (q : Nat → Nat → Nat) : PP q 106 0 = 107 := by show ((PPt.getD 106 []).getD 0 0) = 107; decide +kernel
theorem hP108_0 (q : Nat → Nat → Nat) : PP q 108 0 = 109 := by show ((PPt.getD 108 []).getD 0 0) = 109; decide +kernel
theorem hP110_0 (q : Nat → Nat → Nat) : PP q 110 0 = 111 := by show ((PPt.getD 110 []).getD 0 0) = 111; decide +kernel
theorem hP112_0 (q : Nat → Nat → Nat) : PP q 112 0 = 122 := by show ((PPt.getD 112 []).getD 0 0) = 122; decide +kernel
theorem hP112_1 (q : Nat → Nat → Nat) : PP q 112 1 = 113 := by show ((PPt.getD 112 []).getD 1 0) = 113; decide +kernel
theorem hP112_2 (q : Nat → Nat → Nat) : PP q 112 2 = 114 := by show ((PPt.getD 112 []).getD 2 0) = 114; decide +kernel
theorem hP112_3 (q : Nat → Nat → Nat) : PP q 112 3 = 115 := by show ((PPt.getD 112 []).getD 3 0) = 115; decide +kernel
theorem hP112_4 (q : Nat → Nat → Nat) : PP q 112 4 = 116 := by show ((PPt.getD 112 []).getD 4 0) = 116; decide +kernel
theorem hP112_5 (q : Nat → Nat → Nat) : PP q 112 5 = 117 := by show ((PPt.getD 112 []).getD 5 0) = 117; decide +kernel
theorem hP112_6 (q : Nat → Nat → Nat) : PP q 112 6 = 118 := by show ((PPt.getD 112 []).getD 6 0) = 118; decide +kernel
theorem hP112_7 (q : Nat → Nat → Nat) : PP q 112 7 = 119 := by show ((PPt.getD 112 []).getD 7 0) = 119; decide +kernel
theorem hP112_8 (q : Nat → Nat → Nat) : PP q 112 8 = 121 := by show ((PPt.getD 112 []).getD 8 0) = 121; decide +kernel
theorem hP119_0 (q : Nat → Nat → Nat) : PP q 119 0 = 120 := by show ((PPt.getD 119 []).getD 0 0) = 120; decide +kernel
theorem hP122_0 (q : Nat → Nat → Nat) : PP q 122 0 = 123 := by show ((PPt.getD 122 []).getD 0 0) = 123; decide +kernel
theorem hP122_1 (q : Nat → Nat → Nat) : PP q 122 1 = 124 := by show ((PPt.getD 122 []).getD 1 0) = 124; decide +kernel
theorem hP122_2 (q : Nat → Nat → Nat) : PP q 122 2 = 125 := by show ((PPt.getD 122 []).getD 2 0) = 125; decide +kernel
theorem hP122_3 (q : Nat → Nat → Nat) : PP q 122 3 = 126 := by show ((PPt.getD 122 []).getD 3 0) = 126; decide +kernel
theorem hP122_4 (q : Nat → Nat → Nat) : PP q 122 4 = 127 := by show ((PPt.getD 122 []).getD 4 0) = 127; decide +kernel
theorem hP122_5 (q : Nat → Nat → Nat) : PP q 122 5 = 128 := by show ((PPt.getD 122 []).getD 5 0) = 128; decide +kernel
theorem hP129_0 (q : Nat → Nat → Nat) : PP q 129 0 = 130 := by show ((PPt.getD 129 []).getD 0 0) = 130; decide +kernel
theorem hP131_0 (q : Nat → Nat → Nat) : PP q 131 0 = 132 := by show ((PPt.getD 131 []).getD 0 0) = 132; decide +kernel
theorem hP133_0 (q : Nat → Nat → Nat) : PP q 133 0 = 134 := by show ((PPt.getD 133 []).getD 0 0) = 134; decide +kernel
theorem hP135_0 (q : Nat → Nat → Nat) : PP q 135 0 = 136 := by show ((PPt.getD 135 []).getD 0 0) = 136; decide +kernel
theorem hP137_0 (q : Nat → Nat → Nat) : PP q 137 0 = 138 := by show ((PPt.getD 137 []).getD 0 0) = 138; decide +kernel
theorem hP139_0 (q : Nat → Nat → Nat) : PP q 139 0 = 140 := by show ((PPt.getD 139 []).getD 0 0) = 140; decide +kernel
theorem hP141_0 (q : Nat → Nat → Nat) : PP q 141 0 = 142 := by show ((PPt.getD 141 []).getD 0 0) = 142; decide +kernel
theorem hP143_0 (q : Nat → Nat → Nat) : PP q 143 0 = 144 := by show ((PPt.getD 143 []).getD 0 0) = 144; decide +kernel
theorem hP146_0 (q : Nat → Nat → Nat) : PP q 146 0 = 147 := by show ((PPt.getD 146 []).getD 0 0) = 147; decide +kernel
theorem hP146_1 (q : Nat → Nat → Nat) : PP q 146 1 = 148 := by show ((PPt.getD 146 []).getD 1 0) = 148; decide +kernel
theorem hP146_2 (q : Nat → Nat → Nat) : PP q 146 2 = 149 := by show ((PPt.getD 146 []).getD 2 0) = 149; decide +kernel
theorem hP146_3 (q : Nat → Nat → Nat) : PP q 146 3 = 150 := by show ((PPt.getD 146 []).getD 3 0) = 150; decide +kernel
theorem hP146_4 (q : Nat → Nat → Nat) : PP q 146 4 = 151 := by show ((PPt.getD 146 []).getD 4 0) = 151; decide +kernel
theorem hP146_8 (q : Nat → Nat → Nat) : PP q 146 8 = 152 := by show ((PPt.getD 146 []).getD 8 0) = 152; decide +kernel
theorem hP146_15 (q : Nat → Nat → Nat) : PP q 146 15 = 153 := by show ((PPt.getD 146 []).getD 15 0) = 153; decide +kernel
theorem hP146_16 (q : Nat → Nat → Nat) : PP q 146 16 = 154 := by show ((PPt.getD 146 []).getD 16 0) = 154; decide +kernel
theorem hP146_17 (q : Nat → Nat → Nat) : PP q 146 17 = 155 := by show ((PPt.getD 146 []).getD 17 0) = 155; decide +kernel
theorem hP146_18 (q : Nat → Nat → Nat) : PP q 146 18 = 156 := by show ((PPt.getD 146 []).getD 18 0) = 156; decide +kernel
theorem hP146_19 (q : Nat → Nat → Nat) : PP q 146 19 = 157 := by show ((PPt.getD 146 []).getD 19 0) = 157; decide +kernel
/-- yes is 1, no is 0 -/
def hz_b (p : Prop) [Decidable p] : Int32 := if p then 1 else 0
def hz_rem (x z : Int32) : Int32 := x - x / z * z
theorem hz_n1 : nI 1 = 1 := by decide +kernel
theorem hz_b1 {p : Prop} [Decidable p] (h : p) : hz_b p = 1 := if_pos h
theorem hz_b0 {p : Prop} [Decidable p] (h : ¬ p) : hz_b p = 0 := if_neg h
theorem hz_bn (p : Prop) [Decidable p] : narrow .boolean (.int (hz_b p)) = .int (hz_b p) := by
  unfold hz_b
  split <;> decide
theorem hz_bc {p r : Prop} [Decidable p] [Decidable r] (h : p ↔ r) : hz_b p = hz_b r := by
  unfold hz_b
  simp only [h]
theorem hz_ba (p r : Prop) [Decidable p] [Decidable r] : hz_b p = hz_b r ↔ (p ↔ r) := by
  unfold hz_b
  by_cases hp : p <;> by_cases hr : r <;> simp [hp, hr]
section IFB
variable {X : hz_X} {y : hz_Y} {T : hz_T} {n : Nat} {M : hz_M} {kc ks pc : Nat} {ls : List (Option Value)} {st : List Value}
theorem hz_ifb_eq (C : hz_C X y) {p : Prop} [Decidable p] {off : Int} {tgt : Nat} (d : decode y.2.1 pc = .ok (.ifCond .eq off, 3)) (ht : (pc : Int) + off = (tgt : Int)) (kt : ¬ p → hz_G X T n M kc ks tgt ls st) (kf : p → hz_G X T n M kc ks (pc + 3) ls st) : hz_G X T n M kc ks pc ls (.int (hz_b p) :: st) :=
  hz_if_eq C d ht (fun h => kt (fun hp => by rw [hz_b1 hp] at h; revert h; decide)) (fun h => kf (Decidable.byContradiction fun hp => h (hz_b0 hp)))
theorem hz_ifb_ne (C : hz_C X y) {p : Prop} [Decidable p] {off : Int} {tgt : Nat} (d : decode y.2.1 pc = .ok (.ifCond .ne off, 3)) (ht : (pc : Int) + off = (tgt : Int)) (kt : p → hz_G X T n M kc ks tgt ls st) (kf : ¬ p → hz_G X T n M kc ks (pc + 3) ls st) : hz_G X T n M kc ks pc ls (.int (hz_b p) :: st) :=
  hz_if_ne C d ht (fun h => kt (Decidable.byContradiction fun hp => h (hz_b0 hp))) (fun h => kf (fun hp => by rw [hz_b1 hp] at h; revert h; decide))
end IFB
