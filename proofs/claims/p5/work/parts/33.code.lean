def vb_X0_begin_0 : List VE := [(0, 0, 1, 0, 0), (1, 2, 2, 1, 0), (2, 50, 5, 0, 64), (5, 0, 6, 0, 0), (6, 1, 7, 3, 0), (7, 50, 10, 0, 1), (10, 0, 11, 0, 0), (11, 1, 13, 4, 0), (13, 50, 16, 0, 2), (16, 0, 17, 0, 0), (17, 7, 18, 0, 0), (18, 50, 21, 0, 3), (21, 0, 22, 0, 0), (22, 7, 23, 0, 0), (23, 50, 26, 0, 4), (26, 0, 27, 0, 0), (27, 7, 28, 0, 0), (28, 50, 31, 0, 5), (31, 65, 32, 0, 0)]
theorem ve_X0_begin_0 : zget kd_X0_begin 0 = vb_X0_begin_0.map vq ++ vrest kd_X0_begin (none) := rfl
def vb_X0_addRemark_0 : List VE := [(0, 0, 1, 0, 0), (1, 49, 4, 0, 5), (4, 8, 6, 6, 0), (6, 46, 9, 39, 0), (9, 0, 10, 0, 0), (10, 49, 13, 0, 6), (13, 0, 14, 0, 0), (14, 49, 17, 0, 5), (17, 1, 18, 1, 0), (18, 52, 19, 0, 0), (19, 0, 20, 0, 0), (20, 49, 23, 0, 7), (23, 0, 24, 0, 0), (24, 49, 27, 0, 5), (27, 1, 28, 2, 0), (28, 52, 29, 0, 0), (29, 0, 30, 0, 0), (30, 33, 31, 0, 0), (31, 49, 34, 0, 5), (34, 7, 35, 1, 0), (35, 14, 36, 0, 0), (36, 50, 39, 0, 5)]
theorem ve_X0_addRemark_0 : zget kd_X0_addRemark 0 = vb_X0_addRemark_0.map vq ++ vrest kd_X0_addRemark (some 39) := rfl
def vb_X0_addRemark_39 : List VE := [(39, 65, 40, 0, 0)]
theorem ve_X0_addRemark_39 : zget kd_X0_addRemark 39 = vb_X0_addRemark_39.map vq ++ vrest kd_X0_addRemark (none) := rfl
def vb_X0_dueBales_0 : List VE := [(0, 0, 1, 0, 0), (1, 49, 4, 0, 1), (4, 3, 5, 1, 0), (5, 7, 6, 0, 0), (6, 3, 7, 2, 0)]
theorem ve_X0_dueBales_0 : zget kd_X0_dueBales 0 = vb_X0_dueBales_0.map vq ++ vrest kd_X0_dueBales (some 7) := rfl
def vb_X0_dueBales_7 : List VE := [(7, 1, 8, 2, 0), (8, 0, 9, 0, 0), (9, 49, 12, 0, 5), (12, 46, 15, 39, 0), (15, 0, 16, 0, 0), (16, 49, 19, 0, 6), (19, 1, 20, 2, 0), (20, 51, 21, 0, 0), (21, 38, 24, 33, 0), (24, 1, 25, 1, 0), (25, 0, 26, 0, 0), (26, 49, 29, 0, 7), (29, 1, 30, 2, 0), (30, 51, 31, 0, 0), (31, 15, 32, 0, 0), (32, 3, 33, 1, 0)]
theorem ve_X0_dueBales_7 : zget kd_X0_dueBales 7 = vb_X0_dueBales_7.map vq ++ vrest kd_X0_dueBales (some 33) := rfl
def vb_X0_dueBales_33 : List VE := [(33, 6, 36, 2, 1), (36, 36, 39, 7, 0)]
theorem ve_X0_dueBales_33 : zget kd_X0_dueBales 33 = vb_X0_dueBales_33.map vq ++ vrest kd_X0_dueBales (some 39) := rfl
def vb_X0_dueBales_39 : List VE := [(39, 7, 40, 0, 0), (40, 1, 41, 1, 0), (41, 55, 44, 0, 0), (44, 62, 45, 0, 0)]
theorem ve_X0_dueBales_39 : zget kd_X0_dueBales 39 = vb_X0_dueBales_39.map vq ++ vrest kd_X0_dueBales (none) := rfl
def vb_X0_worthOf_0 : List VE := [(0, 1, 1, 1, 0), (1, 1, 2, 2, 0), (2, 16, 3, 0, 0), (3, 3, 4, 3, 0), (4, 7, 5, 0, 0), (5, 3, 7, 4, 0)]
theorem ve_X0_worthOf_0 : zget kd_X0_worthOf 0 = vb_X0_worthOf_0.map vq ++ vrest kd_X0_worthOf (some 7) := rfl
def vb_X0_worthOf_7 : List VE := [(7, 1, 9, 4, 0), (9, 0, 10, 0, 0), (10, 49, 13, 0, 5), (13, 46, 16, 99, 0), (16, 0, 17, 0, 0), (17, 49, 20, 0, 7), (20, 1, 22, 4, 0), (22, 51, 23, 0, 0), (23, 1, 24, 1, 0), (24, 56, 27, 0, 0), (27, 1, 28, 2, 0), (28, 16, 29, 0, 0), (29, 3, 31, 5, 0), (31, 0, 32, 0, 0), (32, 49, 35, 0, 6), (35, 1, 37, 4, 0), (37, 51, 38, 0, 0), (38, 7, 39, 1, 0), (39, 44, 42, 52, 0), (42, 1, 43, 3, 0), (43, 1, 45, 5, 0), (45, 7, 46, 2, 0), (46, 17, 47, 0, 0), (47, 15, 48, 0, 0), (48, 3, 49, 3, 0), (49, 36, 52, 87, 0)]
theorem ve_X0_worthOf_7 : zget kd_X0_worthOf 7 = vb_X0_worthOf_7.map vq ++ vrest kd_X0_worthOf (some 52) := rfl
def vb_X0_worthOf_52 : List VE := [(52, 0, 53, 0, 0), (53, 49, 56, 0, 6), (56, 1, 58, 4, 0), (58, 51, 59, 0, 0), (59, 7, 60, 2, 0), (60, 44, 63, 73, 0), (63, 1, 64, 3, 0), (64, 1, 66, 5, 0), (66, 7, 67, 4, 0), (67, 17, 68, 0, 0), (68, 15, 69, 0, 0), (69, 3, 70, 3, 0), (70, 36, 73, 87, 0)]
theorem ve_X0_worthOf_52 : zget kd_X0_worthOf 52 = vb_X0_worthOf_52.map vq ++ vrest kd_X0_worthOf (some 73) := rfl
def vb_X0_worthOf_73 : List VE := [(73, 0, 74, 0, 0), (74, 49, 77, 0, 6), (77, 1, 79, 4, 0), (79, 51, 80, 0, 0), (80, 37, 83, 87, 0), (83, 1, 84, 3, 0), (84, 7, 85, 2, 0), (85, 17, 86, 0, 0), (86, 3, 87, 3, 0)]
theorem ve_X0_worthOf_73 : zget kd_X0_worthOf 73 = vb_X0_worthOf_73.map vq ++ vrest kd_X0_worthOf (some 87) := rfl
def vb_X0_worthOf_87 : List VE := [(87, 7, 88, 0, 0), (88, 1, 89, 3, 0), (89, 55, 92, 0, 0), (92, 3, 93, 3, 0), (93, 6, 96, 4, 1), (96, 36, 99, 7, 0)]
theorem ve_X0_worthOf_87 : zget kd_X0_worthOf 87 = vb_X0_worthOf_87.map vq ++ vrest kd_X0_worthOf (some 99) := rfl
def vb_X0_worthOf_99 : List VE := [(99, 1, 100, 3, 0), (100, 62, 101, 0, 0)]
theorem ve_X0_worthOf_99 : zget kd_X0_worthOf 99 = vb_X0_worthOf_99.map vq ++ vrest kd_X0_worthOf (none) := rfl
def vb_X1_takeItems_0 : List VE := [(0, 0, 1, 0, 0), (1, 49, 4, 1, 0), (4, 49, 7, 8, 3), (7, 3, 8, 2, 0), (8, 7, 9, 0, 0), (9, 3, 10, 3, 0), (10, 0, 11, 1, 0), (11, 61, 14, 94, 177)]
theorem ve_X1_takeItems_0 : zget kd_X1_takeItems 0 = vb_X1_takeItems_0.map vq ++ vrest kd_X1_takeItems (some 14) := rfl
def vb_X1_takeItems_14 : List VE := [(14, 1, 15, 3, 0), (15, 9, 18, 600, 0), (18, 46, 21, 106, 0), (21, 0, 22, 1, 0), (22, 49, 25, 10, 2), (25, 0, 26, 1, 0), (26, 49, 29, 10, 1), (29, 46, 32, 106, 0), (32, 0, 33, 1, 0), (33, 61, 36, 95, 177), (36, 3, 38, 4, 0), (38, 1, 40, 4, 0), (40, 8, 42, 98, 0), (42, 44, 45, 53, 0), (45, 0, 46, 0, 0), (46, 0, 47, 1, 0), (47, 61, 50, 7, 34), (50, 36, 53, 91, 0)]
theorem ve_X1_takeItems_14 : zget kd_X1_takeItems 14 = vb_X1_takeItems_14.map vq ++ vrest kd_X1_takeItems (some 53) := rfl
def vb_X1_takeItems_53 : List VE := [(53, 1, 55, 4, 0), (55, 8, 57, 126, 0), (57, 44, 60, 68, 0), (60, 0, 61, 0, 0), (61, 0, 62, 1, 0), (62, 61, 65, 9, 34), (65, 36, 68, 91, 0)]
theorem ve_X1_takeItems_53 : zget kd_X1_takeItems 53 = vb_X1_takeItems_53.map vq ++ vrest kd_X1_takeItems (some 68) := rfl
def vb_X1_takeItems_68 : List VE := [(68, 1, 70, 4, 0), (70, 8, 72, 116, 0), (72, 44, 75, 83, 0), (75, 0, 76, 0, 0), (76, 0, 77, 1, 0), (77, 61, 80, 10, 34), (80, 36, 83, 91, 0)]
theorem ve_X1_takeItems_68 : zget kd_X1_takeItems 68 = vb_X1_takeItems_68.map vq ++ vrest kd_X1_takeItems (some 83) := rfl
def vb_X1_takeItems_83 : List VE := [(83, 0, 84, 1, 0), (84, 0, 85, 1, 0), (85, 49, 88, 10, 2), (88, 61, 91, 96, 178)]
theorem ve_X1_takeItems_83 : zget kd_X1_takeItems 83 = vb_X1_takeItems_83.map vq ++ vrest kd_X1_takeItems (some 91) := rfl
def vb_X1_takeItems_91 : List VE := [(91, 3, 93, 5, 0), (93, 1, 95, 5, 0), (95, 38, 98, 100, 0), (98, 7, 99, 4294967295, 0), (99, 62, 100, 0, 0)]
theorem ve_X1_takeItems_91 : zget kd_X1_takeItems 91 = vb_X1_takeItems_91.map vq ++ vrest kd_X1_takeItems (some 100) := rfl
def vb_X1_takeItems_100 : List VE := [(100, 6, 103, 3, 1), (103, 36, 106, 14, 0)]
theorem ve_X1_takeItems_100 : zget kd_X1_takeItems 100 = vb_X1_takeItems_100.map vq ++ vrest kd_X1_takeItems (some 106) := rfl
def vb_X1_takeItems_106 : List VE := [(106, 0, 107, 0, 0), (107, 49, 110, 1, 0), (110, 49, 113, 8, 3), (113, 1, 114, 2, 0), (114, 43, 117, 122, 0), (117, 0, 118, 0, 0), (118, 7, 119, 0, 0), (119, 61, 122, 12, 34)]
theorem ve_X1_takeItems_106 : zget kd_X1_takeItems 106 = vb_X1_takeItems_106.map vq ++ vrest kd_X1_takeItems (some 122) := rfl
def vb_X1_takeItems_122 : List VE := [(122, 1, 123, 3, 0), (123, 62, 124, 0, 0)]
theorem ve_X1_takeItems_122 : zget kd_X1_takeItems 122 = vb_X1_takeItems_122.map vq ++ vrest kd_X1_takeItems (none) := rfl
def vb_X1_takeBill_0 : List VE := [(0, 0, 1, 0, 0), (1, 49, 4, 1, 2), (4, 8, 6, 12, 0), (6, 45, 9, 18, 0), (9, 0, 10, 1, 0), (10, 0, 11, 1, 0), (11, 49, 14, 10, 2), (14, 61, 17, 96, 178), (17, 62, 18, 2, 0)]
theorem ve_X1_takeBill_0 : zget kd_X1_takeBill 0 = vb_X1_takeBill_0.map vq ++ vrest kd_X1_takeBill (some 18) := rfl
def vb_X1_takeBill_18 : List VE := [(18, 0, 19, 1, 0), (19, 33, 20, 0, 0), (20, 49, 23, 10, 2), (23, 7, 24, 1, 0), (24, 14, 25, 0, 0), (25, 50, 28, 10, 2), (28, 0, 29, 1, 0), (29, 49, 32, 10, 2), (32, 3, 33, 2, 0), (33, 0, 34, 1, 0), (34, 7, 35, 0, 0), (35, 61, 38, 103, 178), (38, 5, 39, 3, 0), (39, 2, 40, 3, 0), (40, 12, 41, 0, 0), (41, 32, 42, 0, 0), (42, 38, 45, 47, 0), (45, 7, 46, 0, 0), (46, 62, 47, 2, 0)]
theorem ve_X1_takeBill_18 : zget kd_X1_takeBill 18 = vb_X1_takeBill_18.map vq ++ vrest kd_X1_takeBill (some 47) := rfl
def vb_X1_takeBill_47 : List VE := [(47, 0, 48, 0, 0), (48, 2, 49, 3, 0), (49, 61, 52, 8, 34), (52, 37, 55, 61, 0), (55, 0, 56, 1, 0), (56, 1, 57, 2, 0), (57, 61, 60, 96, 178), (60, 62, 61, 2, 0)]
theorem ve_X1_takeBill_47 : zget kd_X1_takeBill 47 = vb_X1_takeBill_47.map vq ++ vrest kd_X1_takeBill (some 61) := rfl
def vb_X1_takeBill_61 : List VE := [(61, 0, 62, 1, 0), (62, 8, 64, 58, 0), (64, 61, 67, 97, 178), (67, 37, 70, 78, 0), (70, 0, 71, 1, 0), (71, 7, 72, 3, 0), (72, 61, 75, 101, 178), (75, 36, 78, 79, 0)]
theorem ve_X1_takeBill_61 : zget kd_X1_takeBill 61 = vb_X1_takeBill_61.map vq ++ vrest kd_X1_takeBill (some 78) := rfl
def vb_X1_takeBill_78 : List VE := [(78, 7, 79, 0, 0)]
theorem ve_X1_takeBill_78 : zget kd_X1_takeBill 78 = vb_X1_takeBill_78.map vq ++ vrest kd_X1_takeBill (some 79) := rfl
def vb_X1_takeBill_79 : List VE := [(79, 3, 81, 5, 0), (81, 1, 83, 5, 0), (83, 37, 86, 103, 0), (86, 0, 87, 1, 0), (87, 8, 89, 42, 0), (89, 61, 92, 97, 178), (92, 37, 95, 103, 0), (95, 0, 96, 1, 0), (96, 7, 97, 4, 0), (97, 61, 100, 101, 178), (100, 36, 103, 104, 0)]
theorem ve_X1_takeBill_79 : zget kd_X1_takeBill 79 = vb_X1_takeBill_79.map vq ++ vrest kd_X1_takeBill (some 103) := rfl
def vb_X1_takeBill_103 : List VE := [(103, 7, 104, 0, 0)]
theorem ve_X1_takeBill_103 : zget kd_X1_takeBill 103 = vb_X1_takeBill_103.map vq ++ vrest kd_X1_takeBill (some 104) := rfl
def vb_X1_takeBill_104 : List VE := [(104, 3, 106, 6, 0), (106, 1, 108, 6, 0), (108, 37, 111, 120, 0), (111, 0, 112, 1, 0), (112, 8, 114, 59, 0), (114, 61, 117, 97, 178), (117, 38, 120, 122, 0)]
theorem ve_X1_takeBill_104 : zget kd_X1_takeBill 104 = vb_X1_takeBill_104.map vq ++ vrest kd_X1_takeBill (some 120) := rfl
def vb_X1_takeBill_120 : List VE := [(120, 7, 121, 0, 0), (121, 62, 122, 2, 0)]
theorem ve_X1_takeBill_120 : zget kd_X1_takeBill 120 = vb_X1_takeBill_120.map vq ++ vrest kd_X1_takeBill (some 122) := rfl
def vb_X1_takeBill_122 : List VE := [(122, 0, 123, 0, 0), (123, 49, 126, 1, 1), (126, 0, 127, 0, 0), (127, 49, 130, 1, 2), (130, 53, 131, 0, 0), (131, 2, 132, 3, 0), (132, 1, 134, 5, 0), (134, 1, 136, 6, 0), (136, 61, 139, 1, 20), (139, 0, 140, 0, 0), (140, 33, 141, 0, 0), (141, 49, 144, 1, 2), (144, 7, 145, 1, 0), (145, 14, 146, 0, 0), (146, 50, 149, 1, 2), (149, 7, 150, 1, 0), (150, 62, 151, 2, 0)]
theorem ve_X1_takeBill_122 : zget kd_X1_takeBill 122 = vb_X1_takeBill_122.map vq ++ vrest kd_X1_takeBill (none) := rfl
def vb_X1_isTold_0 : List VE := [(0, 7, 1, 0, 0), (1, 3, 2, 3, 0)]
theorem ve_X1_isTold_0 : zget kd_X1_isTold 0 = vb_X1_isTold_0.map vq ++ vrest kd_X1_isTold (some 2) := rfl
def vb_X1_isTold_2 : List VE := [(2, 1, 3, 3, 0), (3, 0, 4, 0, 0), (4, 49, 7, 1, 2), (7, 46, 10, 32, 0), (10, 0, 11, 0, 0), (11, 49, 14, 1, 1), (14, 1, 15, 3, 0), (15, 53, 16, 0, 0), (16, 49, 19, 0, 0), (19, 2, 20, 1, 0), (20, 32, 21, 0, 0), (21, 38, 24, 26, 0), (24, 7, 25, 1, 0), (25, 62, 26, 2, 0)]
theorem ve_X1_isTold_2 : zget kd_X1_isTold 2 = vb_X1_isTold_2.map vq ++ vrest kd_X1_isTold (some 26) := rfl
def vb_X1_isTold_26 : List VE := [(26, 6, 29, 3, 1), (29, 36, 32, 2, 0)]
theorem ve_X1_isTold_26 : zget kd_X1_isTold 26 = vb_X1_isTold_26.map vq ++ vrest kd_X1_isTold (some 32) := rfl
def vb_X1_isTold_32 : List VE := [(32, 7, 33, 0, 0), (33, 62, 34, 2, 0)]
theorem ve_X1_isTold_32 : zget kd_X1_isTold 32 = vb_X1_isTold_32.map vq ++ vrest kd_X1_isTold (none) := rfl
def vb_X1_takeCouple_0 : List VE := [(0, 0, 1, 0, 0), (1, 49, 4, 1, 0), (4, 49, 7, 8, 3), (7, 8, 9, 8, 0), (9, 45, 12, 21, 0), (12, 0, 13, 1, 0), (13, 0, 14, 1, 0), (14, 49, 17, 10, 2), (17, 61, 20, 96, 178), (20, 62, 21, 2, 0)]
theorem ve_X1_takeCouple_0 : zget kd_X1_takeCouple 0 = vb_X1_takeCouple_0.map vq ++ vrest kd_X1_takeCouple (some 21) := rfl
def vb_X1_takeCouple_21 : List VE := [(21, 0, 22, 1, 0), (22, 33, 23, 0, 0), (23, 49, 26, 10, 2), (26, 7, 27, 1, 0), (27, 14, 28, 0, 0), (28, 50, 31, 10, 2), (31, 0, 32, 1, 0), (32, 49, 35, 10, 2), (35, 3, 36, 2, 0), (36, 0, 37, 1, 0), (37, 61, 40, 102, 177), (40, 3, 41, 3, 0), (41, 1, 42, 3, 0), (42, 38, 45, 49, 0), (45, 7, 46, 0, 0), (46, 36, 49, 53, 0)]
theorem ve_X1_takeCouple_21 : zget kd_X1_takeCouple 21 = vb_X1_takeCouple_21.map vq ++ vrest kd_X1_takeCouple (some 49) := rfl
def vb_X1_takeCouple_49 : List VE := [(49, 0, 50, 1, 0), (50, 61, 53, 102, 177)]
theorem ve_X1_takeCouple_49 : zget kd_X1_takeCouple 49 = vb_X1_takeCouple_49.map vq ++ vrest kd_X1_takeCouple (some 53) := rfl
def vb_X1_takeCouple_53 : List VE := [(53, 3, 55, 4, 0), (55, 1, 57, 4, 0), (57, 38, 60, 62, 0), (60, 7, 61, 0, 0), (61, 62, 62, 2, 0)]
theorem ve_X1_takeCouple_53 : zget kd_X1_takeCouple 53 = vb_X1_takeCouple_53.map vq ++ vrest kd_X1_takeCouple (some 62) := rfl
def vb_X1_takeCouple_62 : List VE := [(62, 1, 63, 3, 0), (63, 1, 65, 4, 0), (65, 43, 68, 81, 0), (68, 0, 69, 0, 0), (69, 49, 72, 1, 0), (72, 1, 73, 3, 0), (73, 1, 75, 4, 0), (75, 61, 78, 81, 147), (78, 37, 81, 87, 0)]
theorem ve_X1_takeCouple_62 : zget kd_X1_takeCouple 62 = vb_X1_takeCouple_62.map vq ++ vrest kd_X1_takeCouple (some 81) := rfl
def vb_X1_takeCouple_81 : List VE := [(81, 0, 82, 1, 0), (82, 1, 83, 2, 0), (83, 61, 86, 96, 178), (86, 62, 87, 2, 0)]
theorem ve_X1_takeCouple_81 : zget kd_X1_takeCouple 81 = vb_X1_takeCouple_81.map vq ++ vrest kd_X1_takeCouple (some 87) := rfl
def vb_X1_takeCouple_87 : List VE := [(87, 0, 88, 1, 0), (88, 8, 90, 59, 0), (90, 61, 93, 97, 178), (93, 38, 96, 98, 0), (96, 7, 97, 0, 0), (97, 62, 98, 2, 0)]
theorem ve_X1_takeCouple_87 : zget kd_X1_takeCouple 87 = vb_X1_takeCouple_87.map vq ++ vrest kd_X1_takeCouple (some 98) := rfl
def vb_X1_takeCouple_98 : List VE := [(98, 0, 99, 0, 0), (99, 49, 102, 1, 0), (102, 1, 103, 3, 0), (103, 1, 105, 4, 0), (105, 61, 108, 83, 147), (108, 7, 109, 1, 0), (109, 62, 110, 2, 0)]
theorem ve_X1_takeCouple_98 : zget kd_X1_takeCouple 98 = vb_X1_takeCouple_98.map vq ++ vrest kd_X1_takeCouple (none) := rfl
def vb_X1_takeLine_0 : List VE := [(0, 0, 1, 0, 0), (1, 49, 4, 1, 4), (4, 8, 6, 60, 0), (6, 45, 9, 18, 0), (9, 0, 10, 1, 0), (10, 0, 11, 1, 0), (11, 49, 14, 10, 2), (14, 61, 17, 96, 178), (17, 62, 18, 2, 0)]
theorem ve_X1_takeLine_0 : zget kd_X1_takeLine 0 = vb_X1_takeLine_0.map vq ++ vrest kd_X1_takeLine (some 18) := rfl
def vb_X1_takeLine_18 : List VE := [(18, 0, 19, 1, 0), (19, 33, 20, 0, 0), (20, 49, 23, 10, 2), (23, 7, 24, 1, 0), (24, 14, 25, 0, 0), (25, 50, 28, 10, 2), (28, 0, 29, 1, 0), (29, 7, 30, 1, 0), (30, 61, 33, 99, 178), (33, 3, 34, 2, 0), (34, 1, 35, 2, 0), (35, 7, 36, 4294967295, 0), (36, 43, 39, 56, 0), (39, 0, 40, 1, 0), (40, 8, 42, 64, 0), (42, 61, 45, 97, 178), (45, 37, 48, 56, 0), (48, 0, 49, 1, 0), (49, 7, 50, 4, 0), (50, 61, 53, 99, 178), (53, 36, 56, 57, 0)]
theorem ve_X1_takeLine_18 : zget kd_X1_takeLine 18 = vb_X1_takeLine_18.map vq ++ vrest kd_X1_takeLine (some 56) := rfl
def vb_X1_takeLine_56 : List VE := [(56, 7, 57, 4294967295, 0)]
theorem ve_X1_takeLine_56 : zget kd_X1_takeLine 56 = vb_X1_takeLine_56.map vq ++ vrest kd_X1_takeLine (some 57) := rfl
def vb_X1_takeLine_57 : List VE := [(57, 3, 58, 3, 0), (58, 1, 59, 3, 0), (59, 7, 60, 4294967295, 0), (60, 43, 63, 80, 0), (63, 0, 64, 1, 0), (64, 8, 66, 58, 0), (66, 61, 69, 97, 178), (69, 37, 72, 80, 0), (72, 0, 73, 1, 0), (73, 7, 74, 1, 0), (74, 61, 77, 103, 178), (77, 36, 80, 81, 0)]
theorem ve_X1_takeLine_57 : zget kd_X1_takeLine 57 = vb_X1_takeLine_57.map vq ++ vrest kd_X1_takeLine (some 80) := rfl
def vb_X1_takeLine_80 : List VE := [(80, 12, 81, 0, 0)]
theorem ve_X1_takeLine_80 : zget kd_X1_takeLine 80 = vb_X1_takeLine_80.map vq ++ vrest kd_X1_takeLine (some 81) := rfl
def vb_X1_takeLine_81 : List VE := [(81, 5, 83, 4, 0), (83, 2, 85, 4, 0), (85, 12, 86, 0, 0), (86, 32, 87, 0, 0), (87, 37, 90, 107, 0), (90, 0, 91, 1, 0), (91, 8, 93, 35, 0), (93, 61, 96, 97, 178), (96, 37, 99, 107, 0), (99, 0, 100, 1, 0), (100, 7, 101, 3, 0), (101, 61, 104, 101, 178), (104, 36, 107, 108, 0)]
theorem ve_X1_takeLine_81 : zget kd_X1_takeLine 81 = vb_X1_takeLine_81.map vq ++ vrest kd_X1_takeLine (some 107) := rfl
def vb_X1_takeLine_107 : List VE := [(107, 7, 108, 0, 0)]
theorem ve_X1_takeLine_107 : zget kd_X1_takeLine 107 = vb_X1_takeLine_107.map vq ++ vrest kd_X1_takeLine (some 108) := rfl
def vb_X1_takeLine_108 : List VE := [(108, 3, 110, 6, 0), (110, 1, 112, 6, 0), (112, 37, 115, 124, 0), (115, 0, 116, 1, 0), (116, 8, 118, 59, 0), (118, 61, 121, 97, 178), (121, 38, 124, 126, 0)]
theorem ve_X1_takeLine_108 : zget kd_X1_takeLine 108 = vb_X1_takeLine_108.map vq ++ vrest kd_X1_takeLine (some 124) := rfl
def vb_X1_takeLine_124 : List VE := [(124, 7, 125, 0, 0), (125, 62, 126, 2, 0)]
theorem ve_X1_takeLine_124 : zget kd_X1_takeLine 124 = vb_X1_takeLine_124.map vq ++ vrest kd_X1_takeLine (some 126) := rfl
def vb_X1_takeLine_126 : List VE := [(126, 0, 127, 0, 0), (127, 49, 130, 1, 3), (130, 0, 131, 0, 0), (131, 49, 134, 1, 4), (134, 53, 135, 0, 0), (135, 4, 137, 7, 0), (137, 0, 139, 7, 0), (139, 1, 140, 2, 0), (140, 50, 143, 5, 0), (143, 0, 145, 7, 0), (145, 1, 146, 3, 0), (146, 50, 149, 5, 1), (149, 0, 151, 7, 0), (151, 1, 153, 6, 0), (153, 50, 156, 5, 2), (156, 0, 158, 7, 0), (158, 2, 160, 4, 0), (160, 50, 163, 5, 67), (163, 0, 165, 7, 0), (165, 7, 166, 0, 0), (166, 50, 169, 5, 4), (169, 0, 170, 0, 0), (170, 33, 171, 0, 0), (171, 49, 174, 1, 4), (174, 7, 175, 1, 0), (175, 14, 176, 0, 0), (176, 50, 179, 1, 4), (179, 7, 180, 1, 0), (180, 62, 181, 2, 0)]
theorem ve_X1_takeLine_126 : zget kd_X1_takeLine 126 = vb_X1_takeLine_126.map vq ++ vrest kd_X1_takeLine (none) := rfl
def vb_X1_cutTo_0 : List VE := [(0, 0, 1, 0, 0), (1, 49, 4, 1, 0), (4, 49, 7, 8, 3), (7, 1, 8, 3, 0), (8, 48, 11, 15, 0), (11, 7, 12, 1, 0), (12, 36, 15, 16, 0)]
theorem ve_X1_cutTo_0 : zget kd_X1_cutTo 0 = vb_X1_cutTo_0.map vq ++ vrest kd_X1_cutTo (some 15) := rfl
def vb_X1_cutTo_15 : List VE := [(15, 7, 16, 0, 0)]
theorem ve_X1_cutTo_15 : zget kd_X1_cutTo 15 = vb_X1_cutTo_15.map vq ++ vrest kd_X1_cutTo (some 16) := rfl
def vb_X1_cutTo_16 : List VE := [(16, 3, 18, 4, 0), (18, 0, 19, 0, 0), (19, 1, 20, 1, 0), (20, 50, 23, 1, 2), (23, 0, 24, 0, 0), (24, 1, 25, 2, 0), (25, 50, 28, 1, 4), (28, 0, 29, 0, 0), (29, 49, 32, 1, 0), (32, 1, 33, 3, 0), (33, 61, 36, 84, 146), (36, 0, 37, 0, 0), (37, 1, 39, 4, 0), (39, 37, 42, 46, 0), (42, 7, 43, 0, 0), (43, 36, 46, 47, 0)]
theorem ve_X1_cutTo_16 : zget kd_X1_cutTo 16 = vb_X1_cutTo_16.map vq ++ vrest kd_X1_cutTo (some 46) := rfl
def vb_X1_cutTo_46 : List VE := [(46, 1, 47, 1, 0)]
theorem ve_X1_cutTo_46 : zget kd_X1_cutTo 46 = vb_X1_cutTo_46.map vq ++ vrest kd_X1_cutTo (some 47) := rfl
def vb_X1_cutTo_47 : List VE := [(47, 61, 50, 12, 34), (50, 65, 51, 0, 0)]
theorem ve_X1_cutTo_47 : zget kd_X1_cutTo 47 = vb_X1_cutTo_47.map vq ++ vrest kd_X1_cutTo (none) := rfl
def vb_X1_keepMeasured_0 : List VE := [(0, 7, 1, 0, 0), (1, 3, 2, 2, 0)]
theorem ve_X1_keepMeasured_0 : zget kd_X1_keepMeasured 0 = vb_X1_keepMeasured_0.map vq ++ vrest kd_X1_keepMeasured (some 2) := rfl
def vb_X1_keepMeasured_2 : List VE := [(2, 1, 3, 2, 0), (3, 0, 4, 0, 0), (4, 49, 7, 1, 4), (7, 46, 10, 38, 0), (10, 0, 11, 0, 0), (11, 49, 14, 1, 3), (14, 1, 15, 2, 0), (15, 53, 16, 0, 0), (16, 0, 17, 0, 0), (17, 49, 20, 1, 3), (20, 1, 21, 2, 0), (21, 53, 22, 0, 0), (22, 49, 25, 5, 4), (25, 1, 26, 1, 0), (26, 56, 29, 0, 0), (29, 50, 32, 5, 4), (32, 6, 35, 2, 1), (35, 36, 38, 2, 0)]
theorem ve_X1_keepMeasured_2 : zget kd_X1_keepMeasured 2 = vb_X1_keepMeasured_2.map vq ++ vrest kd_X1_keepMeasured (some 38) := rfl
def vb_X1_keepMeasured_38 : List VE := [(38, 65, 39, 0, 0)]
theorem ve_X1_keepMeasured_38 : zget kd_X1_keepMeasured 38 = vb_X1_keepMeasured_38.map vq ++ vrest kd_X1_keepMeasured (none) := rfl
def vb_X1_takeOut_0 : List VE := [(0, 0, 1, 0, 0), (1, 49, 4, 1, 3), (4, 1, 5, 1, 0), (5, 53, 6, 0, 0), (6, 4, 7, 3, 0), (7, 0, 8, 0, 0), (8, 33, 9, 0, 0), (9, 49, 12, 1, 4), (12, 7, 13, 1, 0), (13, 15, 14, 0, 0), (14, 50, 17, 1, 4), (17, 1, 18, 1, 0), (18, 3, 20, 4, 0)]
theorem ve_X1_takeOut_0 : zget kd_X1_takeOut 0 = vb_X1_takeOut_0.map vq ++ vrest kd_X1_takeOut (some 20) := rfl
def vb_X1_takeOut_20 : List VE := [(20, 1, 22, 4, 0), (22, 0, 23, 0, 0), (23, 49, 26, 1, 4), (26, 46, 29, 51, 0), (29, 0, 30, 0, 0), (30, 49, 33, 1, 3), (33, 1, 35, 4, 0), (35, 0, 36, 0, 0), (36, 49, 39, 1, 3), (39, 1, 41, 4, 0), (41, 7, 42, 1, 0), (42, 14, 43, 0, 0), (43, 53, 44, 0, 0), (44, 59, 45, 0, 0), (45, 6, 48, 4, 1), (48, 36, 51, 20, 0)]
theorem ve_X1_takeOut_20 : zget kd_X1_takeOut 20 = vb_X1_takeOut_20.map vq ++ vrest kd_X1_takeOut (some 51) := rfl
def vb_X1_takeOut_51 : List VE := [(51, 0, 52, 0, 0), (52, 49, 55, 1, 3), (55, 0, 56, 0, 0), (56, 49, 59, 1, 4), (59, 0, 60, 2, 0), (60, 59, 61, 0, 0), (61, 0, 62, 3, 0), (62, 63, 63, 0, 0)]
theorem ve_X1_takeOut_51 : zget kd_X1_takeOut 51 = vb_X1_takeOut_51.map vq ++ vrest kd_X1_takeOut (none) := rfl
def vb_X1_putBack_0 : List VE := [(0, 0, 1, 0, 0), (1, 49, 4, 1, 4), (4, 8, 6, 60, 0), (6, 45, 9, 11, 0), (9, 0, 10, 2, 0), (10, 63, 11, 0, 0)]
theorem ve_X1_putBack_0 : zget kd_X1_putBack 0 = vb_X1_putBack_0.map vq ++ vrest kd_X1_putBack (some 11) := rfl
def vb_X1_putBack_11 : List VE := [(11, 0, 12, 0, 0), (12, 49, 15, 1, 3), (15, 0, 16, 0, 0), (16, 49, 19, 1, 4), (19, 53, 20, 0, 0), (20, 4, 21, 3, 0), (21, 0, 22, 0, 0), (22, 49, 25, 1, 4), (25, 3, 27, 4, 0)]
theorem ve_X1_putBack_11 : zget kd_X1_putBack 11 = vb_X1_putBack_11.map vq ++ vrest kd_X1_putBack (some 27) := rfl
def vb_X1_putBack_27 : List VE := [(27, 1, 29, 4, 0), (29, 1, 30, 1, 0), (30, 48, 33, 55, 0), (33, 0, 34, 0, 0), (34, 49, 37, 1, 3), (37, 1, 39, 4, 0), (39, 0, 40, 0, 0), (40, 49, 43, 1, 3), (43, 1, 45, 4, 0), (45, 7, 46, 1, 0), (46, 15, 47, 0, 0), (47, 53, 48, 0, 0), (48, 59, 49, 0, 0), (49, 6, 52, 4, 4294967295), (52, 36, 55, 27, 0)]
theorem ve_X1_putBack_27 : zget kd_X1_putBack 27 = vb_X1_putBack_27.map vq ++ vrest kd_X1_putBack (some 55) := rfl
def vb_X1_putBack_55 : List VE := [(55, 0, 56, 0, 0), (56, 49, 59, 1, 3), (59, 1, 60, 1, 0), (60, 0, 61, 2, 0), (61, 59, 62, 0, 0), (62, 0, 63, 0, 0), (63, 33, 64, 0, 0), (64, 49, 67, 1, 4), (67, 7, 68, 1, 0), (68, 14, 69, 0, 0), (69, 50, 72, 1, 4), (72, 0, 73, 3, 0), (73, 63, 74, 0, 0)]
theorem ve_X1_putBack_55 : zget kd_X1_putBack 55 = vb_X1_putBack_55.map vq ++ vrest kd_X1_putBack (none) := rfl
def vb_X1_gapsOf_0 : List VE := [(0, 0, 1, 0, 0), (1, 49, 4, 1, 3), (4, 1, 5, 1, 0), (5, 53, 6, 0, 0), (6, 4, 7, 2, 0), (7, 0, 8, 2, 0), (8, 49, 11, 5, 4), (11, 3, 12, 3, 0)]
theorem ve_X1_gapsOf_0 : zget kd_X1_gapsOf 0 = vb_X1_gapsOf_0.map vq ++ vrest kd_X1_gapsOf (some 12) := rfl
def vb_X1_gapsOf_12 : List VE := [(12, 1, 13, 3, 0), (13, 0, 14, 0, 0), (14, 49, 17, 1, 2), (17, 46, 20, 52, 0), (20, 0, 21, 2, 0), (21, 49, 24, 5, 5), (24, 1, 25, 3, 0), (25, 0, 26, 0, 0), (26, 49, 29, 1, 0), (29, 0, 30, 2, 0), (30, 49, 33, 5, 3), (33, 0, 34, 0, 0), (34, 49, 37, 1, 1), (37, 1, 38, 3, 0), (38, 53, 39, 0, 0), (39, 49, 42, 0, 0), (42, 61, 45, 85, 147), (45, 52, 46, 0, 0), (46, 6, 49, 3, 1), (49, 36, 52, 12, 0)]
theorem ve_X1_gapsOf_12 : zget kd_X1_gapsOf 12 = vb_X1_gapsOf_12.map vq ++ vrest kd_X1_gapsOf (some 52) := rfl
def vb_X1_gapsOf_52 : List VE := [(52, 0, 53, 2, 0), (53, 0, 54, 0, 0), (54, 49, 57, 1, 2), (57, 50, 60, 5, 4), (60, 0, 61, 2, 0), (61, 49, 64, 5, 5), (64, 63, 65, 0, 0)]
theorem ve_X1_gapsOf_52 : zget kd_X1_gapsOf 52 = vb_X1_gapsOf_52.map vq ++ vrest kd_X1_gapsOf (none) := rfl
def vb_X1_readBy_0 : List VE := [(0, 8, 2, 4294967293, 0), (2, 3, 3, 3, 0), (3, 1, 4, 2, 0), (4, 7, 5, 1, 0), (5, 14, 6, 0, 0), (6, 3, 8, 4, 0), (8, 7, 9, 0, 0), (9, 3, 11, 5, 0)]
theorem ve_X1_readBy_0 : zget kd_X1_readBy 0 = vb_X1_readBy_0.map vq ++ vrest kd_X1_readBy (some 11) := rfl
def vb_X1_readBy_11 : List VE := [(11, 1, 13, 5, 0), (13, 0, 14, 0, 0), (14, 49, 17, 1, 2), (17, 46, 20, 65, 0), (20, 0, 21, 1, 0), (21, 1, 23, 5, 0), (23, 51, 24, 0, 0), (24, 1, 26, 4, 0), (26, 46, 29, 41, 0), (29, 0, 30, 1, 0), (30, 1, 32, 5, 0), (32, 51, 33, 0, 0), (33, 3, 35, 4, 0), (35, 1, 37, 5, 0), (37, 3, 38, 3, 0), (38, 36, 41, 59, 0)]
theorem ve_X1_readBy_11 : zget kd_X1_readBy 11 = vb_X1_readBy_11.map vq ++ vrest kd_X1_readBy (some 41) := rfl
def vb_X1_readBy_41 : List VE := [(41, 0, 42, 1, 0), (42, 1, 44, 5, 0), (44, 51, 45, 0, 0), (45, 1, 47, 4, 0), (47, 44, 50, 59, 0), (50, 1, 51, 3, 0), (51, 8, 53, 4294967293, 0), (53, 43, 56, 59, 0), (56, 8, 58, 4294967294, 0), (58, 3, 59, 3, 0)]
theorem ve_X1_readBy_41 : zget kd_X1_readBy 41 = vb_X1_readBy_41.map vq ++ vrest kd_X1_readBy (some 59) := rfl
def vb_X1_readBy_59 : List VE := [(59, 6, 62, 5, 1), (62, 36, 65, 11, 0)]
theorem ve_X1_readBy_59 : zget kd_X1_readBy 59 = vb_X1_readBy_59.map vq ++ vrest kd_X1_readBy (some 65) := rfl
def vb_X1_readBy_65 : List VE := [(65, 1, 66, 3, 0), (66, 62, 67, 0, 0)]
theorem ve_X1_readBy_65 : zget kd_X1_readBy 65 = vb_X1_readBy_65.map vq ++ vrest kd_X1_readBy (none) := rfl
def vb_X1_readSeen_0 : List VE := [(0, 7, 1, 0, 0), (1, 3, 2, 3, 0)]
theorem ve_X1_readSeen_0 : zget kd_X1_readSeen 0 = vb_X1_readSeen_0.map vq ++ vrest kd_X1_readSeen (some 2) := rfl
def vb_X1_readSeen_2 : List VE := [(2, 1, 3, 3, 0), (3, 0, 4, 0, 0), (4, 49, 7, 1, 2), (7, 46, 10, 39, 0), (10, 0, 11, 0, 0), (11, 49, 14, 1, 14), (14, 1, 15, 3, 0), (15, 0, 16, 0, 0), (16, 49, 19, 1, 0), (19, 2, 20, 1, 0), (20, 0, 21, 0, 0), (21, 49, 24, 1, 1), (24, 1, 25, 3, 0), (25, 53, 26, 0, 0), (26, 49, 29, 0, 0), (29, 61, 32, 85, 147), (32, 52, 33, 0, 0), (33, 6, 36, 3, 1), (36, 36, 39, 2, 0)]
theorem ve_X1_readSeen_2 : zget kd_X1_readSeen 2 = vb_X1_readSeen_2.map vq ++ vrest kd_X1_readSeen (some 39) := rfl
def vb_X1_readSeen_39 : List VE := [(39, 0, 40, 0, 0), (40, 0, 41, 0, 0), (41, 49, 44, 1, 14), (44, 0, 45, 0, 0), (45, 49, 48, 1, 7), (48, 61, 51, 16, 35), (51, 62, 52, 0, 0)]
theorem ve_X1_readSeen_39 : zget kd_X1_readSeen 39 = vb_X1_readSeen_39.map vq ++ vrest kd_X1_readSeen (none) := rfl
def vb_X1_cureFor_0 : List VE := [(0, 7, 1, 1, 0), (1, 3, 2, 3, 0)]
theorem ve_X1_cureFor_0 : zget kd_X1_cureFor 0 = vb_X1_cureFor_0.map vq ++ vrest kd_X1_cureFor (some 2) := rfl
def vb_X1_cureFor_2 : List VE := [(2, 1, 3, 3, 0), (3, 8, 5, 36, 0), (5, 47, 8, 43, 0), (8, 1, 9, 3, 0), (9, 1, 10, 2, 0), (10, 43, 13, 37, 0), (13, 0, 14, 0, 0), (14, 49, 17, 1, 0), (17, 1, 18, 2, 0), (18, 1, 19, 3, 0), (19, 61, 22, 81, 147), (22, 38, 25, 37, 0), (25, 0, 26, 0, 0), (26, 1, 27, 1, 0), (27, 1, 28, 2, 0), (28, 1, 29, 3, 0), (29, 61, 32, 19, 36), (32, 37, 35, 37, 0), (35, 1, 36, 3, 0), (36, 62, 37, 0, 0)]
theorem ve_X1_cureFor_2 : zget kd_X1_cureFor 2 = vb_X1_cureFor_2.map vq ++ vrest kd_X1_cureFor (some 37) := rfl
def vb_X1_cureFor_37 : List VE := [(37, 6, 40, 3, 1), (40, 36, 43, 2, 0)]
theorem ve_X1_cureFor_37 : zget kd_X1_cureFor 37 = vb_X1_cureFor_37.map vq ++ vrest kd_X1_cureFor (some 43) := rfl
def vb_X1_cureFor_43 : List VE := [(43, 7, 44, 0, 0), (44, 62, 45, 0, 0)]
theorem ve_X1_cureFor_43 : zget kd_X1_cureFor 43 = vb_X1_cureFor_43.map vq ++ vrest kd_X1_cureFor (none) := rfl
def vb_X1_isCure_0 : List VE := [(0, 0, 1, 0, 0), (1, 1, 2, 1, 0), (2, 61, 5, 15, 34), (5, 4, 7, 4, 0), (7, 0, 8, 0, 0), (8, 49, 11, 1, 3), (11, 1, 12, 1, 0), (12, 53, 13, 0, 0), (13, 49, 16, 5, 3), (16, 5, 18, 5, 0), (18, 2, 20, 5, 0), (20, 1, 21, 3, 0), (21, 60, 24, 78, 2), (24, 3, 26, 7, 0), (26, 7, 27, 0, 0), (27, 3, 29, 8, 0), (29, 0, 30, 0, 0), (30, 49, 33, 1, 0), (33, 1, 34, 2, 0), (34, 1, 35, 3, 0), (35, 7, 36, 1, 0), (36, 61, 39, 82, 148), (39, 7, 40, 0, 0), (40, 3, 42, 9, 0)]
theorem ve_X1_isCure_0 : zget kd_X1_isCure 0 = vb_X1_isCure_0.map vq ++ vrest kd_X1_isCure (some 42) := rfl
def vb_X1_isCure_42 : List VE := [(42, 1, 44, 9, 0), (44, 0, 45, 0, 0), (45, 49, 48, 1, 2), (48, 46, 51, 125, 0), (51, 0, 52, 0, 0), (52, 49, 55, 1, 1), (55, 1, 57, 9, 0), (57, 53, 58, 0, 0), (58, 49, 61, 0, 0), (61, 5, 63, 10, 0), (63, 0, 64, 0, 0), (64, 49, 67, 1, 14), (67, 1, 69, 9, 0), (69, 0, 71, 4, 0), (71, 1, 73, 9, 0), (73, 51, 74, 0, 0), (74, 52, 75, 0, 0), (75, 2, 77, 10, 0), (77, 1, 78, 3, 0), (78, 60, 81, 78, 2), (81, 38, 84, 98, 0), (84, 1, 86, 7, 0), (86, 37, 89, 119, 0), (89, 2, 91, 10, 0), (91, 1, 92, 2, 0), (92, 60, 95, 78, 2), (95, 37, 98, 119, 0)]
theorem ve_X1_isCure_42 : zget kd_X1_isCure 42 = vb_X1_isCure_42.map vq ++ vrest kd_X1_isCure (some 98) := rfl
def vb_X1_isCure_98 : List VE := [(98, 0, 99, 0, 0), (99, 49, 102, 1, 14), (102, 1, 104, 9, 0), (104, 0, 105, 0, 0), (105, 49, 108, 1, 0), (108, 2, 110, 5, 0), (110, 2, 112, 10, 0), (112, 61, 115, 85, 147), (115, 52, 116, 0, 0), (116, 7, 117, 1, 0), (117, 3, 119, 8, 0)]
theorem ve_X1_isCure_98 : zget kd_X1_isCure 98 = vb_X1_isCure_98.map vq ++ vrest kd_X1_isCure (some 119) := rfl
def vb_X1_isCure_119 : List VE := [(119, 6, 122, 9, 1), (122, 36, 125, 42, 0)]
theorem ve_X1_isCure_119 : zget kd_X1_isCure 119 = vb_X1_isCure_119.map vq ++ vrest kd_X1_isCure (some 125) := rfl
def vb_X1_isCure_125 : List VE := [(125, 0, 126, 0, 0), (126, 49, 129, 1, 0), (129, 1, 130, 2, 0), (130, 1, 131, 3, 0), (131, 7, 132, 3, 0), (132, 61, 135, 82, 148), (135, 1, 137, 8, 0), (137, 37, 140, 159, 0), (140, 0, 141, 0, 0), (141, 0, 142, 0, 0), (142, 49, 145, 1, 14), (145, 0, 146, 0, 0), (146, 49, 149, 1, 7), (149, 61, 152, 16, 35), (152, 39, 155, 159, 0), (155, 7, 156, 1, 0), (156, 36, 159, 160, 0)]
theorem ve_X1_isCure_125 : zget kd_X1_isCure 125 = vb_X1_isCure_125.map vq ++ vrest kd_X1_isCure (some 159) := rfl
def vb_X1_isCure_159 : List VE := [(159, 7, 160, 0, 0)]
theorem ve_X1_isCure_159 : zget kd_X1_isCure 159 = vb_X1_isCure_159.map vq ++ vrest kd_X1_isCure (some 160) := rfl
def vb_X1_isCure_160 : List VE := [(160, 62, 161, 2, 0)]
theorem ve_X1_isCure_160 : zget kd_X1_isCure 160 = vb_X1_isCure_160.map vq ++ vrest kd_X1_isCure (none) := rfl
def vb_X1_chargeEach_0 : List VE := [(0, 7, 1, 0, 0), (1, 0, 2, 0, 0), (2, 49, 5, 1, 10), (5, 0, 6, 0, 0), (6, 49, 9, 1, 11), (9, 15, 10, 0, 0), (10, 55, 13, 0, 0), (13, 0, 14, 0, 0), (14, 49, 17, 1, 12), (17, 16, 18, 0, 0), (18, 62, 19, 0, 0)]
theorem ve_X1_chargeEach_0 : zget kd_X1_chargeEach 0 = vb_X1_chargeEach_0.map vq ++ vrest kd_X1_chargeEach (none) := rfl
def vb_X1_balesIn_0 : List VE := [(0, 7, 1, 0, 0), (1, 3, 2, 3, 0), (2, 7, 3, 0, 0), (3, 3, 5, 4, 0)]
theorem ve_X1_balesIn_0 : zget kd_X1_balesIn 0 = vb_X1_balesIn_0.map vq ++ vrest kd_X1_balesIn (some 5) := rfl
def vb_X1_balesIn_5 : List VE := [(5, 1, 7, 4, 0), (7, 0, 8, 0, 0), (8, 49, 11, 1, 4), (11, 46, 14, 44, 0), (14, 0, 15, 0, 0), (15, 1, 17, 4, 0), (17, 1, 18, 1, 0), (18, 1, 19, 2, 0), (19, 61, 22, 26, 36), (22, 37, 25, 38, 0), (25, 1, 26, 3, 0), (26, 0, 27, 0, 0), (27, 49, 30, 1, 3), (30, 1, 32, 4, 0), (32, 53, 33, 0, 0), (33, 49, 36, 5, 2), (36, 14, 37, 0, 0), (37, 3, 38, 3, 0)]
theorem ve_X1_balesIn_5 : zget kd_X1_balesIn 5 = vb_X1_balesIn_5.map vq ++ vrest kd_X1_balesIn (some 38) := rfl
def vb_X1_balesIn_38 : List VE := [(38, 6, 41, 4, 1), (41, 36, 44, 5, 0)]
theorem ve_X1_balesIn_38 : zget kd_X1_balesIn 38 = vb_X1_balesIn_38.map vq ++ vrest kd_X1_balesIn (some 44) := rfl
def vb_X1_balesIn_44 : List VE := [(44, 1, 45, 3, 0), (45, 62, 46, 0, 0)]
theorem ve_X1_balesIn_44 : zget kd_X1_balesIn 44 = vb_X1_balesIn_44.map vq ++ vrest kd_X1_balesIn (none) := rfl
def vb_X1_linesIn_0 : List VE := [(0, 7, 1, 0, 0), (1, 3, 2, 3, 0), (2, 7, 3, 0, 0), (3, 3, 5, 4, 0)]
theorem ve_X1_linesIn_0 : zget kd_X1_linesIn 0 = vb_X1_linesIn_0.map vq ++ vrest kd_X1_linesIn (some 5) := rfl
def vb_X1_linesIn_5 : List VE := [(5, 1, 7, 4, 0), (7, 0, 8, 0, 0), (8, 49, 11, 1, 4), (11, 46, 14, 34, 0), (14, 0, 15, 0, 0), (15, 1, 17, 4, 0), (17, 1, 18, 1, 0), (18, 1, 19, 2, 0), (19, 61, 22, 26, 36), (22, 37, 25, 28, 0), (25, 6, 28, 3, 1)]
theorem ve_X1_linesIn_5 : zget kd_X1_linesIn 5 = vb_X1_linesIn_5.map vq ++ vrest kd_X1_linesIn (some 28) := rfl
def vb_X1_linesIn_28 : List VE := [(28, 6, 31, 4, 1), (31, 36, 34, 5, 0)]
theorem ve_X1_linesIn_28 : zget kd_X1_linesIn 28 = vb_X1_linesIn_28.map vq ++ vrest kd_X1_linesIn (some 34) := rfl
def vb_X1_linesIn_34 : List VE := [(34, 1, 35, 3, 0), (35, 62, 36, 0, 0)]
theorem ve_X1_linesIn_34 : zget kd_X1_linesIn 34 = vb_X1_linesIn_34.map vq ++ vrest kd_X1_linesIn (none) := rfl
def vb_X1_marksIn_0 : List VE := [(0, 7, 1, 0, 0), (1, 3, 2, 2, 0), (2, 7, 3, 0, 0), (3, 3, 4, 3, 0)]
theorem ve_X1_marksIn_0 : zget kd_X1_marksIn 0 = vb_X1_marksIn_0.map vq ++ vrest kd_X1_marksIn (some 4) := rfl
def vb_X1_marksIn_4 : List VE := [(4, 1, 5, 3, 0), (5, 0, 6, 0, 0), (6, 49, 9, 1, 4), (9, 46, 12, 43, 0), (12, 0, 13, 0, 0), (13, 49, 16, 1, 3), (16, 1, 17, 3, 0), (17, 53, 18, 0, 0), (18, 49, 21, 5, 1), (21, 1, 22, 1, 0), (22, 44, 25, 37, 0), (25, 0, 26, 0, 0), (26, 1, 27, 3, 0), (27, 1, 28, 1, 0), (28, 61, 31, 24, 35), (31, 37, 34, 37, 0), (34, 6, 37, 2, 1)]
theorem ve_X1_marksIn_4 : zget kd_X1_marksIn 4 = vb_X1_marksIn_4.map vq ++ vrest kd_X1_marksIn (some 37) := rfl
def vb_X1_marksIn_37 : List VE := [(37, 6, 40, 3, 1), (40, 36, 43, 4, 0)]
theorem ve_X1_marksIn_37 : zget kd_X1_marksIn 37 = vb_X1_marksIn_37.map vq ++ vrest kd_X1_marksIn (some 43) := rfl
def vb_X1_marksIn_43 : List VE := [(43, 1, 44, 2, 0), (44, 62, 45, 0, 0)]
theorem ve_X1_marksIn_43 : zget kd_X1_marksIn 43 = vb_X1_marksIn_43.map vq ++ vrest kd_X1_marksIn (none) := rfl
def vb_X1_firstSeen_0 : List VE := [(0, 7, 1, 0, 0), (1, 3, 2, 3, 0)]
theorem ve_X1_firstSeen_0 : zget kd_X1_firstSeen 0 = vb_X1_firstSeen_0.map vq ++ vrest kd_X1_firstSeen (some 2) := rfl
def vb_X1_firstSeen_2 : List VE := [(2, 1, 3, 3, 0), (3, 1, 4, 1, 0), (4, 46, 7, 50, 0), (7, 0, 8, 0, 0), (8, 49, 11, 1, 3), (11, 1, 12, 3, 0), (12, 53, 13, 0, 0), (13, 49, 16, 5, 1), (16, 1, 17, 2, 0), (17, 44, 20, 44, 0), (20, 0, 21, 0, 0), (21, 49, 24, 1, 3), (24, 1, 25, 3, 0), (25, 53, 26, 0, 0), (26, 49, 29, 5, 3), (29, 0, 30, 0, 0), (30, 49, 33, 1, 3), (33, 1, 34, 1, 0), (34, 53, 35, 0, 0), (35, 49, 38, 5, 3), (38, 32, 39, 0, 0), (39, 38, 42, 44, 0), (42, 7, 43, 0, 0), (43, 62, 44, 2, 0)]
theorem ve_X1_firstSeen_2 : zget kd_X1_firstSeen 2 = vb_X1_firstSeen_2.map vq ++ vrest kd_X1_firstSeen (some 44) := rfl
def vb_X1_firstSeen_44 : List VE := [(44, 6, 47, 3, 1), (47, 36, 50, 2, 0)]
theorem ve_X1_firstSeen_44 : zget kd_X1_firstSeen 44 = vb_X1_firstSeen_44.map vq ++ vrest kd_X1_firstSeen (some 50) := rfl
def vb_X1_firstSeen_50 : List VE := [(50, 7, 51, 1, 0), (51, 62, 52, 2, 0)]
theorem ve_X1_firstSeen_50 : zget kd_X1_firstSeen 50 = vb_X1_firstSeen_50.map vq ++ vrest kd_X1_firstSeen (none) := rfl
def vb_X1_surplusIn_0 : List VE := [(0, 0, 1, 0, 0), (1, 1, 2, 1, 0), (2, 7, 3, 0, 0), (3, 61, 6, 21, 35), (6, 0, 7, 0, 0), (7, 1, 8, 1, 0), (8, 7, 9, 1, 0), (9, 61, 12, 21, 35), (12, 15, 13, 0, 0), (13, 62, 14, 0, 0)]
theorem ve_X1_surplusIn_0 : zget kd_X1_surplusIn 0 = vb_X1_surplusIn_0.map vq ++ vrest kd_X1_surplusIn (none) := rfl
def vb_X1_isIn_0 : List VE := [(0, 0, 1, 0, 0), (1, 49, 4, 1, 3), (4, 1, 5, 1, 0), (5, 53, 6, 0, 0), (6, 49, 9, 5, 1), (9, 1, 10, 2, 0), (10, 44, 13, 30, 0), (13, 0, 14, 0, 0), (14, 49, 17, 1, 3), (17, 1, 18, 1, 0), (18, 53, 19, 0, 0), (19, 49, 22, 5, 0), (22, 1, 23, 3, 0), (23, 44, 26, 30, 0), (26, 7, 27, 1, 0), (27, 36, 30, 31, 0)]
theorem ve_X1_isIn_0 : zget kd_X1_isIn 0 = vb_X1_isIn_0.map vq ++ vrest kd_X1_isIn (some 30) := rfl
def vb_X1_isIn_30 : List VE := [(30, 7, 31, 0, 0)]
theorem ve_X1_isIn_30 : zget kd_X1_isIn 30 = vb_X1_isIn_30.map vq ++ vrest kd_X1_isIn (some 31) := rfl
def vb_X1_isIn_31 : List VE := [(31, 62, 32, 2, 0)]
theorem ve_X1_isIn_31 : zget kd_X1_isIn 31 = vb_X1_isIn_31.map vq ++ vrest kd_X1_isIn (none) := rfl
def vb_X1_setAgainst_0 : List VE := [(0, 7, 1, 0, 0), (1, 3, 2, 2, 0), (2, 0, 3, 0, 0), (3, 49, 6, 1, 16), (6, 7, 7, 0, 0), (7, 7, 8, 0, 0), (8, 52, 9, 0, 0), (9, 7, 10, 0, 0), (10, 3, 11, 3, 0)]
theorem ve_X1_setAgainst_0 : zget kd_X1_setAgainst 0 = vb_X1_setAgainst_0.map vq ++ vrest kd_X1_setAgainst (some 11) := rfl
def vb_X1_setAgainst_11 : List VE := [(11, 1, 12, 3, 0), (12, 0, 13, 0, 0), (13, 49, 16, 1, 4), (16, 46, 19, 69, 0), (19, 0, 20, 0, 0), (20, 1, 21, 3, 0), (21, 1, 22, 1, 0), (22, 7, 23, 1, 0), (23, 61, 26, 26, 36), (26, 37, 29, 63, 0), (29, 0, 30, 0, 0), (30, 49, 33, 1, 15), (33, 1, 34, 2, 0), (34, 1, 35, 3, 0), (35, 52, 36, 0, 0), (36, 0, 37, 0, 0), (37, 49, 40, 1, 16), (40, 1, 41, 2, 0), (41, 7, 42, 1, 0), (42, 14, 43, 0, 0), (43, 0, 44, 0, 0), (44, 49, 47, 1, 16), (47, 1, 48, 2, 0), (48, 51, 49, 0, 0), (49, 0, 50, 0, 0), (50, 49, 53, 1, 3), (53, 1, 54, 3, 0), (54, 53, 55, 0, 0), (55, 60, 58, 28, 1), (58, 14, 59, 0, 0), (59, 52, 60, 0, 0), (60, 6, 63, 2, 1)]
theorem ve_X1_setAgainst_11 : zget kd_X1_setAgainst 11 = vb_X1_setAgainst_11.map vq ++ vrest kd_X1_setAgainst (some 63) := rfl
def vb_X1_setAgainst_63 : List VE := [(63, 6, 66, 3, 1), (66, 36, 69, 11, 0)]
theorem ve_X1_setAgainst_63 : zget kd_X1_setAgainst 63 = vb_X1_setAgainst_63.map vq ++ vrest kd_X1_setAgainst (some 69) := rfl
def vb_X1_setAgainst_69 : List VE := [(69, 7, 70, 0, 0), (70, 3, 71, 3, 0)]
theorem ve_X1_setAgainst_69 : zget kd_X1_setAgainst 69 = vb_X1_setAgainst_69.map vq ++ vrest kd_X1_setAgainst (some 71) := rfl
def vb_X1_setAgainst_71 : List VE := [(71, 1, 72, 3, 0), (72, 0, 73, 0, 0), (73, 49, 76, 1, 4), (76, 46, 79, 106, 0), (79, 0, 80, 0, 0), (80, 1, 81, 3, 0), (81, 1, 82, 1, 0), (82, 7, 83, 0, 0), (83, 61, 86, 26, 36), (86, 37, 89, 100, 0), (89, 0, 90, 0, 0), (90, 0, 91, 0, 0), (91, 49, 94, 1, 3), (94, 1, 95, 3, 0), (95, 53, 96, 0, 0), (96, 1, 97, 2, 0), (97, 61, 100, 29, 35)]
theorem ve_X1_setAgainst_71 : zget kd_X1_setAgainst 71 = vb_X1_setAgainst_71.map vq ++ vrest kd_X1_setAgainst (some 100) := rfl
def vb_X1_setAgainst_100 : List VE := [(100, 6, 103, 3, 1), (103, 36, 106, 71, 0)]
theorem ve_X1_setAgainst_100 : zget kd_X1_setAgainst 100 = vb_X1_setAgainst_100.map vq ++ vrest kd_X1_setAgainst (some 106) := rfl
def vb_X1_setAgainst_106 : List VE := [(106, 0, 107, 0, 0), (107, 49, 110, 1, 16), (110, 1, 111, 2, 0), (111, 51, 112, 0, 0), (112, 62, 113, 0, 0)]
theorem ve_X1_setAgainst_106 : zget kd_X1_setAgainst 106 = vb_X1_setAgainst_106.map vq ++ vrest kd_X1_setAgainst (none) := rfl
def vb_X1_leavingOut_0 : List VE := [(0, 0, 1, 0, 0), (1, 49, 4, 5, 2), (4, 8, 6, 64, 0), (6, 16, 7, 0, 0), (7, 7, 8, 1, 0), (8, 14, 9, 0, 0), (9, 62, 10, 0, 0)]
theorem ve_X1_leavingOut_0 : zget kd_X1_leavingOut 0 = vb_X1_leavingOut_0.map vq ++ vrest kd_X1_leavingOut (none) := rfl
def vb_X1_setAgainstShore_0 : List VE := [(0, 0, 1, 0, 0), (1, 49, 4, 1, 16), (4, 7, 5, 0, 0), (5, 51, 6, 0, 0), (6, 3, 7, 3, 0), (7, 0, 8, 0, 0), (8, 49, 11, 1, 16), (11, 7, 12, 0, 0), (12, 1, 13, 3, 0), (13, 0, 14, 1, 0), (14, 60, 17, 28, 1), (17, 14, 18, 0, 0), (18, 52, 19, 0, 0), (19, 7, 20, 0, 0), (20, 3, 22, 4, 0)]
theorem ve_X1_setAgainstShore_0 : zget kd_X1_setAgainstShore 0 = vb_X1_setAgainstShore_0.map vq ++ vrest kd_X1_setAgainstShore (some 22) := rfl
def vb_X1_setAgainstShore_22 : List VE := [(22, 1, 24, 4, 0), (24, 1, 25, 2, 0), (25, 46, 28, 157, 0), (28, 0, 29, 0, 0), (29, 49, 32, 1, 3), (32, 0, 33, 0, 0), (33, 49, 36, 1, 15), (36, 1, 38, 4, 0), (38, 51, 39, 0, 0), (39, 53, 40, 0, 0), (40, 4, 42, 5, 0), (42, 0, 43, 0, 0), (43, 49, 46, 1, 16), (46, 1, 48, 4, 0), (48, 7, 49, 1, 0), (49, 14, 50, 0, 0), (50, 51, 51, 0, 0), (51, 0, 52, 1, 0), (52, 60, 55, 28, 1), (55, 14, 56, 0, 0), (56, 0, 57, 0, 0), (57, 49, 60, 1, 16), (60, 1, 62, 4, 0), (62, 51, 63, 0, 0), (63, 0, 65, 5, 0), (65, 60, 68, 28, 1), (68, 14, 69, 0, 0), (69, 56, 72, 0, 0), (72, 3, 74, 6, 0), (74, 1, 75, 3, 0), (75, 0, 76, 1, 0), (76, 49, 79, 5, 2), (79, 0, 81, 5, 0), (81, 49, 84, 5, 2), (84, 15, 85, 0, 0), (85, 66, 88, 0, 0), (88, 8, 90, 64, 0), (90, 16, 91, 0, 0), (91, 14, 92, 0, 0), (92, 3, 94, 7, 0), (94, 1, 96, 7, 0), (96, 1, 98, 6, 0), (98, 46, 101, 125, 0), (101, 1, 103, 7, 0), (103, 0, 104, 0, 0), (104, 49, 107, 1, 0), (107, 0, 108, 1, 0), (108, 49, 111, 5, 3), (111, 0, 113, 5, 0), (113, 49, 116, 5, 3), (116, 61, 119, 85, 147), (119, 8, 121, 64, 0), (121, 16, 122, 0, 0), (122, 14, 123, 0, 0), (123, 3, 125, 7, 0)]
theorem ve_X1_setAgainstShore_22 : zget kd_X1_setAgainstShore 22 = vb_X1_setAgainstShore_22.map vq ++ vrest kd_X1_setAgainstShore (some 125) := rfl
def vb_X1_setAgainstShore_125 : List VE := [(125, 0, 126, 0, 0), (126, 49, 129, 1, 16), (129, 1, 131, 4, 0), (131, 7, 132, 1, 0), (132, 14, 133, 0, 0), (133, 51, 134, 0, 0), (134, 3, 135, 3, 0), (135, 0, 136, 0, 0), (136, 49, 139, 1, 16), (139, 1, 141, 4, 0), (141, 7, 142, 1, 0), (142, 14, 143, 0, 0), (143, 1, 145, 7, 0), (145, 1, 147, 6, 0), (147, 56, 150, 0, 0), (150, 52, 151, 0, 0), (151, 6, 154, 4, 1), (154, 36, 157, 22, 0)]
theorem ve_X1_setAgainstShore_125 : zget kd_X1_setAgainstShore 125 = vb_X1_setAgainstShore_125.map vq ++ vrest kd_X1_setAgainstShore (some 157) := rfl
def vb_X1_setAgainstShore_157 : List VE := [(157, 65, 158, 0, 0)]
theorem ve_X1_setAgainstShore_157 : zget kd_X1_setAgainstShore 157 = vb_X1_setAgainstShore_157.map vq ++ vrest kd_X1_setAgainstShore (none) := rfl
def vb_X2_undo_0 : List VE := [(0, 0, 1, 0, 0), (1, 49, 4, 2, 0), (4, 100, 60, 0, 0)]
theorem ve_X2_undo_0 : zget kd_X2_undo 0 = vb_X2_undo_0.map vq ++ vrest kd_X2_undo (some 60) := rfl
def vb_X2_undo_60 : List VE := [(60, 0, 61, 1, 0), (61, 0, 62, 0, 0), (62, 49, 65, 2, 1), (65, 0, 66, 0, 0), (66, 49, 69, 2, 2), (69, 0, 70, 0, 0), (70, 49, 73, 2, 3), (73, 61, 76, 11, 36), (76, 36, 79, 243, 0)]
theorem ve_X2_undo_60 : zget kd_X2_undo 60 = vb_X2_undo_60.map vq ++ vrest kd_X2_undo (some 79) := rfl
def vb_X2_undo_79 : List VE := [(79, 0, 80, 0, 0), (80, 0, 81, 1, 0), (81, 61, 84, 32, 50), (84, 36, 87, 243, 0)]
theorem ve_X2_undo_79 : zget kd_X2_undo 79 = vb_X2_undo_79.map vq ++ vrest kd_X2_undo (some 87) := rfl
def vb_X2_undo_87 : List VE := [(87, 0, 88, 1, 0), (88, 49, 91, 1, 1), (91, 0, 92, 0, 0), (92, 49, 95, 2, 1), (95, 53, 96, 0, 0), (96, 33, 97, 0, 0), (97, 49, 100, 0, 5), (100, 7, 101, 1, 0), (101, 15, 102, 0, 0), (102, 50, 105, 0, 5), (105, 36, 108, 243, 0)]
theorem ve_X2_undo_87 : zget kd_X2_undo 87 = vb_X2_undo_87.map vq ++ vrest kd_X2_undo (some 108) := rfl
def vb_X2_undo_108 : List VE := [(108, 0, 109, 1, 0), (109, 49, 112, 1, 1), (112, 0, 113, 0, 0), (113, 49, 116, 2, 1), (116, 53, 117, 0, 0), (117, 0, 118, 0, 0), (118, 49, 121, 2, 2), (121, 50, 124, 0, 3), (124, 36, 127, 243, 0)]
theorem ve_X2_undo_108 : zget kd_X2_undo 108 = vb_X2_undo_108.map vq ++ vrest kd_X2_undo (some 127) := rfl
def vb_X2_undo_127 : List VE := [(127, 0, 128, 1, 0), (128, 0, 129, 0, 0), (129, 49, 132, 2, 1), (132, 50, 135, 1, 7), (135, 36, 138, 243, 0)]
theorem ve_X2_undo_127 : zget kd_X2_undo 127 = vb_X2_undo_127.map vq ++ vrest kd_X2_undo (some 138) := rfl
def vb_X2_undo_138 : List VE := [(138, 0, 139, 1, 0), (139, 0, 140, 0, 0), (140, 49, 143, 2, 1), (143, 50, 146, 1, 8), (146, 36, 149, 243, 0)]
theorem ve_X2_undo_138 : zget kd_X2_undo 138 = vb_X2_undo_138.map vq ++ vrest kd_X2_undo (some 149) := rfl
def vb_X2_undo_149 : List VE := [(149, 0, 150, 1, 0), (150, 0, 151, 0, 0), (151, 49, 154, 2, 1), (154, 50, 157, 1, 9), (157, 36, 160, 243, 0)]
theorem ve_X2_undo_149 : zget kd_X2_undo 149 = vb_X2_undo_149.map vq ++ vrest kd_X2_undo (some 160) := rfl
def vb_X2_undo_160 : List VE := [(160, 0, 161, 0, 0), (161, 0, 162, 1, 0), (162, 0, 163, 0, 0), (163, 49, 166, 2, 1), (166, 0, 167, 0, 0), (167, 49, 170, 2, 5), (170, 61, 173, 14, 35), (173, 50, 176, 2, 197), (176, 36, 179, 243, 0)]
theorem ve_X2_undo_160 : zget kd_X2_undo 160 = vb_X2_undo_160.map vq ++ vrest kd_X2_undo (some 179) := rfl
def vb_X2_undo_179 : List VE := [(179, 0, 180, 1, 0), (180, 0, 181, 0, 0), (181, 49, 184, 2, 1), (184, 50, 187, 1, 10), (187, 36, 190, 243, 0)]
theorem ve_X2_undo_179 : zget kd_X2_undo 179 = vb_X2_undo_179.map vq ++ vrest kd_X2_undo (some 190) := rfl
def vb_X2_undo_190 : List VE := [(190, 0, 191, 1, 0), (191, 0, 192, 0, 0), (192, 49, 195, 2, 1), (195, 50, 198, 1, 11), (198, 0, 199, 1, 0), (199, 0, 200, 0, 0), (200, 49, 203, 2, 2), (203, 50, 206, 1, 12), (206, 36, 209, 243, 0)]
theorem ve_X2_undo_190 : zget kd_X2_undo 190 = vb_X2_undo_190.map vq ++ vrest kd_X2_undo (some 209) := rfl
def vb_X2_undo_209 : List VE := [(209, 0, 210, 1, 0), (210, 49, 213, 1, 1), (213, 0, 214, 0, 0), (214, 49, 217, 2, 1), (217, 53, 218, 0, 0), (218, 33, 219, 0, 0), (219, 49, 222, 0, 4), (222, 0, 223, 0, 0), (223, 49, 226, 2, 2), (226, 15, 227, 0, 0), (227, 50, 230, 0, 4), (230, 0, 231, 1, 0), (231, 33, 232, 0, 0), (232, 49, 235, 1, 13), (235, 0, 236, 0, 0), (236, 49, 239, 2, 3), (239, 15, 240, 0, 0), (240, 50, 243, 1, 13)]
theorem ve_X2_undo_209 : zget kd_X2_undo 209 = vb_X2_undo_209.map vq ++ vrest kd_X2_undo (some 243) := rfl
def vb_X2_undo_243 : List VE := [(243, 65, 244, 0, 0)]
theorem ve_X2_undo_243 : zget kd_X2_undo 243 = vb_X2_undo_243.map vq ++ vrest kd_X2_undo (none) := rfl
def vb_X2_swapLaw_0 : List VE := [(0, 0, 1, 1, 0), (1, 49, 4, 1, 5), (4, 4, 5, 2, 0), (5, 0, 6, 1, 0), (6, 0, 7, 0, 0), (7, 49, 10, 2, 4), (10, 50, 13, 1, 197), (13, 0, 14, 0, 0), (14, 0, 15, 2, 0), (15, 50, 18, 2, 196), (18, 65, 19, 0, 0)]
theorem ve_X2_swapLaw_0 : zget kd_X2_swapLaw 0 = vb_X2_swapLaw_0.map vq ++ vrest kd_X2_swapLaw (none) := rfl
def vb_X3_refresh_0 : List VE := [(0, 0, 1, 0, 0), (1, 49, 4, 3, 2), (4, 37, 7, 8, 0), (7, 65, 8, 0, 0)]
theorem ve_X3_refresh_0 : zget kd_X3_refresh 0 = vb_X3_refresh_0.map vq ++ vrest kd_X3_refresh (some 8) := rfl
def vb_X3_refresh_8 : List VE := [(8, 0, 9, 0, 0), (9, 7, 10, 1, 0), (10, 50, 13, 3, 130), (13, 0, 14, 0, 0), (14, 61, 17, 35, 65), (17, 7, 18, 0, 0), (18, 3, 19, 1, 0)]
theorem ve_X3_refresh_8 : zget kd_X3_refresh 8 = vb_X3_refresh_8.map vq ++ vrest kd_X3_refresh (some 19) := rfl
def vb_X3_refresh_19 : List VE := [(19, 1, 20, 1, 0), (20, 9, 23, 11988, 0), (23, 46, 26, 50, 0), (26, 0, 27, 0, 0), (27, 61, 30, 37, 65), (30, 3, 31, 2, 0), (31, 1, 32, 2, 0), (32, 7, 33, 4294967295, 0), (33, 44, 36, 39, 0), (36, 36, 39, 50, 0)]
theorem ve_X3_refresh_19 : zget kd_X3_refresh 19 = vb_X3_refresh_19.map vq ++ vrest kd_X3_refresh (some 39) := rfl
def vb_X3_refresh_39 : List VE := [(39, 0, 40, 0, 0), (40, 1, 41, 2, 0), (41, 61, 44, 41, 66), (44, 6, 47, 1, 1), (47, 36, 50, 19, 0)]
theorem ve_X3_refresh_39 : zget kd_X3_refresh 39 = vb_X3_refresh_39.map vq ++ vrest kd_X3_refresh (some 50) := rfl
def vb_X3_refresh_50 : List VE := [(50, 65, 51, 0, 0)]
theorem ve_X3_refresh_50 : zget kd_X3_refresh 50 = vb_X3_refresh_50.map vq ++ vrest kd_X3_refresh (none) := rfl
def vb_X3_begin_0 : List VE := [(0, 0, 1, 0, 0), (1, 7, 2, 0, 0), (2, 50, 5, 3, 9), (5, 0, 6, 0, 0), (6, 7, 7, 0, 0), (7, 50, 10, 3, 10), (10, 7, 11, 0, 0), (11, 3, 12, 1, 0)]
theorem ve_X3_begin_0 : zget kd_X3_begin 0 = vb_X3_begin_0.map vq ++ vrest kd_X3_begin (some 12) := rfl
def vb_X3_begin_12 : List VE := [(12, 1, 13, 1, 0), (13, 8, 15, 12, 0), (15, 46, 18, 39, 0), (18, 0, 19, 0, 0), (19, 49, 22, 3, 4), (22, 1, 23, 1, 0), (23, 0, 24, 0, 0), (24, 49, 27, 3, 1), (27, 49, 30, 6, 4), (30, 1, 31, 1, 0), (31, 51, 32, 0, 0), (32, 52, 33, 0, 0), (33, 6, 36, 1, 1), (36, 36, 39, 12, 0)]
theorem ve_X3_begin_12 : zget kd_X3_begin 12 = vb_X3_begin_12.map vq ++ vrest kd_X3_begin (some 39) := rfl
def vb_X3_begin_39 : List VE := [(39, 7, 40, 0, 0), (40, 3, 41, 1, 0)]
theorem ve_X3_begin_39 : zget kd_X3_begin 39 = vb_X3_begin_39.map vq ++ vrest kd_X3_begin (some 41) := rfl
def vb_X3_begin_41 : List VE := [(41, 1, 42, 1, 0), (42, 0, 43, 0, 0), (43, 49, 46, 3, 1), (46, 49, 49, 6, 6), (49, 46, 52, 96, 0), (52, 0, 53, 0, 0), (53, 49, 56, 3, 3), (56, 1, 57, 1, 0), (57, 0, 58, 0, 0), (58, 49, 61, 3, 1), (61, 49, 64, 6, 3), (64, 1, 65, 1, 0), (65, 51, 66, 0, 0), (66, 52, 67, 0, 0), (67, 7, 68, 0, 0), (68, 3, 69, 2, 0)]
theorem ve_X3_begin_41 : zget kd_X3_begin 41 = vb_X3_begin_41.map vq ++ vrest kd_X3_begin (some 69) := rfl
def vb_X3_begin_69 : List VE := [(69, 1, 70, 2, 0), (70, 8, 72, 12, 0), (72, 46, 75, 90, 0), (75, 0, 76, 0, 0), (76, 49, 79, 3, 5), (79, 1, 80, 1, 0), (80, 53, 81, 0, 0), (81, 1, 82, 2, 0), (82, 7, 83, 0, 0), (83, 52, 84, 0, 0), (84, 6, 87, 2, 1), (87, 36, 90, 69, 0)]
theorem ve_X3_begin_69 : zget kd_X3_begin 69 = vb_X3_begin_69.map vq ++ vrest kd_X3_begin (some 90) := rfl
def vb_X3_begin_90 : List VE := [(90, 6, 93, 1, 1), (93, 36, 96, 41, 0)]
theorem ve_X3_begin_90 : zget kd_X3_begin 90 = vb_X3_begin_90.map vq ++ vrest kd_X3_begin (some 96) := rfl
def vb_X3_begin_96 : List VE := [(96, 65, 97, 0, 0)]
theorem ve_X3_begin_96 : zget kd_X3_begin 96 = vb_X3_begin_96.map vq ++ vrest kd_X3_begin (none) := rfl
def vb_X3_reaches_0 : List VE := [(0, 0, 1, 0, 0), (1, 49, 4, 3, 1), (4, 49, 7, 6, 4), (7, 1, 8, 2, 0), (8, 51, 9, 0, 0), (9, 42, 12, 37, 0), (12, 0, 13, 0, 0), (13, 49, 16, 3, 1), (16, 49, 19, 6, 5), (19, 1, 20, 1, 0), (20, 53, 21, 0, 0), (21, 1, 22, 2, 0), (22, 51, 23, 0, 0), (23, 0, 24, 0, 0), (24, 49, 27, 3, 0), (27, 49, 30, 1, 8), (30, 47, 33, 37, 0), (33, 7, 34, 1, 0), (34, 36, 37, 38, 0)]
theorem ve_X3_reaches_0 : zget kd_X3_reaches 0 = vb_X3_reaches_0.map vq ++ vrest kd_X3_reaches (some 37) := rfl
def vb_X3_reaches_37 : List VE := [(37, 7, 38, 0, 0)]
theorem ve_X3_reaches_37 : zget kd_X3_reaches 37 = vb_X3_reaches_37.map vq ++ vrest kd_X3_reaches (some 38) := rfl
def vb_X3_reaches_38 : List VE := [(38, 62, 39, 2, 0)]
theorem ve_X3_reaches_38 : zget kd_X3_reaches 38 = vb_X3_reaches_38.map vq ++ vrest kd_X3_reaches (none) := rfl
def vb_X3_cheapestEnd_0 : List VE := [(0, 0, 1, 0, 0), (1, 61, 4, 38, 65), (4, 7, 5, 1, 0), (5, 3, 6, 1, 0), (6, 7, 7, 0, 0), (7, 3, 8, 2, 0)]
theorem ve_X3_cheapestEnd_0 : zget kd_X3_cheapestEnd 0 = vb_X3_cheapestEnd_0.map vq ++ vrest kd_X3_cheapestEnd (some 8) := rfl
def vb_X3_cheapestEnd_8 : List VE := [(8, 1, 9, 2, 0), (9, 8, 11, 12, 0), (11, 46, 14, 29, 0), (14, 1, 15, 1, 0), (15, 37, 18, 29, 0), (18, 0, 19, 0, 0), (19, 61, 22, 39, 65), (22, 3, 23, 1, 0), (23, 6, 26, 2, 1), (26, 36, 29, 8, 0)]
theorem ve_X3_cheapestEnd_8 : zget kd_X3_cheapestEnd 8 = vb_X3_cheapestEnd_8.map vq ++ vrest kd_X3_cheapestEnd (some 29) := rfl
def vb_X3_cheapestEnd_29 : List VE := [(29, 7, 30, 4294967295, 0), (30, 3, 31, 2, 0), (31, 7, 32, 0, 0), (32, 3, 33, 3, 0)]
theorem ve_X3_cheapestEnd_29 : zget kd_X3_cheapestEnd 29 = vb_X3_cheapestEnd_29.map vq ++ vrest kd_X3_cheapestEnd (some 33) := rfl
def vb_X3_cheapestEnd_33 : List VE := [(33, 1, 34, 3, 0), (34, 0, 35, 0, 0), (35, 49, 38, 3, 0), (38, 49, 41, 1, 2), (41, 46, 44, 92, 0), (44, 0, 45, 0, 0), (45, 49, 48, 3, 4), (48, 1, 49, 3, 0), (49, 51, 50, 0, 0), (50, 42, 53, 86, 0), (53, 0, 54, 0, 0), (54, 49, 57, 3, 6), (57, 1, 58, 3, 0), (58, 51, 59, 0, 0), (59, 10, 61, 1000000, 0), (61, 46, 64, 86, 0), (64, 1, 65, 2, 0), (65, 7, 66, 4294967295, 0), (66, 43, 69, 84, 0), (69, 0, 70, 0, 0), (70, 49, 73, 3, 6), (73, 1, 74, 3, 0), (74, 51, 75, 0, 0), (75, 0, 76, 0, 0), (76, 49, 79, 3, 6), (79, 1, 80, 2, 0), (80, 51, 81, 0, 0), (81, 46, 84, 86, 0)]
theorem ve_X3_cheapestEnd_33 : zget kd_X3_cheapestEnd 33 = vb_X3_cheapestEnd_33.map vq ++ vrest kd_X3_cheapestEnd (some 84) := rfl
def vb_X3_cheapestEnd_84 : List VE := [(84, 1, 85, 3, 0), (85, 3, 86, 2, 0)]
theorem ve_X3_cheapestEnd_84 : zget kd_X3_cheapestEnd 84 = vb_X3_cheapestEnd_84.map vq ++ vrest kd_X3_cheapestEnd (some 86) := rfl
def vb_X3_cheapestEnd_86 : List VE := [(86, 6, 89, 3, 1), (89, 36, 92, 33, 0)]
theorem ve_X3_cheapestEnd_86 : zget kd_X3_cheapestEnd 86 = vb_X3_cheapestEnd_86.map vq ++ vrest kd_X3_cheapestEnd (some 92) := rfl
def vb_X3_cheapestEnd_92 : List VE := [(92, 1, 93, 2, 0), (93, 62, 94, 0, 0)]
theorem ve_X3_cheapestEnd_92 : zget kd_X3_cheapestEnd 92 = vb_X3_cheapestEnd_92.map vq ++ vrest kd_X3_cheapestEnd (none) := rfl
def vb_X3_goStraight_0 : List VE := [(0, 7, 1, 0, 0), (1, 3, 2, 1, 0)]
theorem ve_X3_goStraight_0 : zget kd_X3_goStraight 0 = vb_X3_goStraight_0.map vq ++ vrest kd_X3_goStraight (some 2) := rfl
def vb_X3_goStraight_2 : List VE := [(2, 1, 3, 1, 0), (3, 8, 5, 12, 0), (5, 46, 8, 29, 0), (8, 0, 9, 0, 0), (9, 49, 12, 3, 6), (12, 1, 13, 1, 0), (13, 10, 15, 1000000, 0), (15, 52, 16, 0, 0), (16, 0, 17, 0, 0), (17, 49, 20, 3, 8), (20, 1, 21, 1, 0), (21, 7, 22, 4294967295, 0), (22, 52, 23, 0, 0), (23, 6, 26, 1, 1), (26, 36, 29, 2, 0)]
theorem ve_X3_goStraight_2 : zget kd_X3_goStraight 2 = vb_X3_goStraight_2.map vq ++ vrest kd_X3_goStraight (some 29) := rfl
def vb_X3_goStraight_29 : List VE := [(29, 7, 30, 0, 0), (30, 3, 31, 1, 0)]
theorem ve_X3_goStraight_29 : zget kd_X3_goStraight 29 = vb_X3_goStraight_29.map vq ++ vrest kd_X3_goStraight (some 31) := rfl
def vb_X3_goStraight_31 : List VE := [(31, 1, 32, 1, 0), (32, 0, 33, 0, 0), (33, 49, 36, 3, 1), (36, 49, 39, 6, 6), (39, 46, 42, 129, 0), (42, 7, 43, 0, 0), (43, 3, 44, 2, 0)]
theorem ve_X3_goStraight_31 : zget kd_X3_goStraight 31 = vb_X3_goStraight_31.map vq ++ vrest kd_X3_goStraight (some 44) := rfl
def vb_X3_goStraight_44 : List VE := [(44, 1, 45, 2, 0), (45, 0, 46, 0, 0), (46, 49, 49, 3, 0), (49, 49, 52, 1, 2), (52, 46, 55, 123, 0), (55, 0, 56, 0, 0), (56, 49, 59, 3, 3), (59, 1, 60, 1, 0), (60, 51, 61, 0, 0), (61, 42, 64, 123, 0), (64, 0, 65, 0, 0), (65, 1, 66, 1, 0), (66, 1, 67, 2, 0), (67, 61, 70, 36, 67), (70, 37, 73, 117, 0), (73, 0, 74, 0, 0), (74, 49, 77, 3, 1), (77, 49, 80, 6, 5), (80, 1, 81, 1, 0), (81, 53, 82, 0, 0), (82, 1, 83, 2, 0), (83, 51, 84, 0, 0), (84, 0, 85, 0, 0), (85, 49, 88, 3, 6), (88, 1, 89, 2, 0), (89, 51, 90, 0, 0), (90, 46, 93, 117, 0), (93, 0, 94, 0, 0), (94, 49, 97, 3, 6), (97, 1, 98, 2, 0), (98, 0, 99, 0, 0), (99, 49, 102, 3, 1), (102, 49, 105, 6, 5), (105, 1, 106, 1, 0), (106, 53, 107, 0, 0), (107, 1, 108, 2, 0), (108, 51, 109, 0, 0), (109, 52, 110, 0, 0), (110, 0, 111, 0, 0), (111, 49, 114, 3, 7), (114, 1, 115, 2, 0), (115, 1, 116, 1, 0), (116, 52, 117, 0, 0)]
theorem ve_X3_goStraight_44 : zget kd_X3_goStraight 44 = vb_X3_goStraight_44.map vq ++ vrest kd_X3_goStraight (some 117) := rfl
def vb_X3_goStraight_117 : List VE := [(117, 6, 120, 2, 1), (120, 36, 123, 44, 0)]
theorem ve_X3_goStraight_117 : zget kd_X3_goStraight 117 = vb_X3_goStraight_117.map vq ++ vrest kd_X3_goStraight (some 123) := rfl
def vb_X3_goStraight_123 : List VE := [(123, 6, 126, 1, 1), (126, 36, 129, 31, 0)]
theorem ve_X3_goStraight_123 : zget kd_X3_goStraight 123 = vb_X3_goStraight_123.map vq ++ vrest kd_X3_goStraight (some 129) := rfl
def vb_X3_goStraight_129 : List VE := [(129, 65, 130, 0, 0)]
theorem ve_X3_goStraight_129 : zget kd_X3_goStraight 129 = vb_X3_goStraight_129.map vq ++ vrest kd_X3_goStraight (none) := rfl
def vb_X3_goRound_0 : List VE := [(0, 7, 1, 0, 0), (1, 3, 2, 1, 0), (2, 7, 3, 0, 0), (3, 3, 4, 2, 0)]
theorem ve_X3_goRound_0 : zget kd_X3_goRound 0 = vb_X3_goRound_0.map vq ++ vrest kd_X3_goRound (some 4) := rfl
def vb_X3_goRound_4 : List VE := [(4, 1, 5, 2, 0), (5, 0, 6, 0, 0), (6, 49, 9, 3, 1), (9, 49, 12, 6, 6), (12, 46, 15, 93, 0), (15, 7, 16, 0, 0), (16, 3, 17, 3, 0)]
theorem ve_X3_goRound_4 : zget kd_X3_goRound 4 = vb_X3_goRound_4.map vq ++ vrest kd_X3_goRound (some 17) := rfl
def vb_X3_goRound_17 : List VE := [(17, 1, 18, 3, 0), (18, 0, 19, 0, 0), (19, 49, 22, 3, 0), (22, 49, 25, 1, 2), (25, 46, 28, 87, 0), (28, 0, 29, 0, 0), (29, 49, 32, 3, 1), (32, 49, 35, 6, 3), (35, 1, 36, 2, 0), (36, 51, 37, 0, 0), (37, 42, 40, 87, 0), (40, 0, 41, 0, 0), (41, 49, 44, 3, 5), (44, 1, 45, 2, 0), (45, 53, 46, 0, 0), (46, 1, 47, 3, 0), (47, 51, 48, 0, 0), (48, 42, 51, 81, 0), (51, 0, 52, 0, 0), (52, 49, 55, 3, 6), (55, 1, 56, 3, 0), (56, 51, 57, 0, 0), (57, 10, 59, 1000000, 0), (59, 46, 62, 81, 0), (62, 0, 63, 0, 0), (63, 1, 64, 2, 0), (64, 1, 65, 3, 0), (65, 61, 68, 40, 67), (68, 38, 71, 75, 0), (71, 1, 72, 1, 0), (72, 37, 75, 79, 0)]
theorem ve_X3_goRound_17 : zget kd_X3_goRound 17 = vb_X3_goRound_17.map vq ++ vrest kd_X3_goRound (some 75) := rfl
def vb_X3_goRound_75 : List VE := [(75, 7, 76, 1, 0), (76, 36, 79, 80, 0)]
theorem ve_X3_goRound_75 : zget kd_X3_goRound 75 = vb_X3_goRound_75.map vq ++ vrest kd_X3_goRound (some 79) := rfl
def vb_X3_goRound_79 : List VE := [(79, 7, 80, 0, 0)]
theorem ve_X3_goRound_79 : zget kd_X3_goRound 79 = vb_X3_goRound_79.map vq ++ vrest kd_X3_goRound (some 80) := rfl
def vb_X3_goRound_80 : List VE := [(80, 3, 81, 1, 0)]
theorem ve_X3_goRound_80 : zget kd_X3_goRound 80 = vb_X3_goRound_80.map vq ++ vrest kd_X3_goRound (some 81) := rfl
def vb_X3_goRound_81 : List VE := [(81, 6, 84, 3, 1), (84, 36, 87, 17, 0)]
theorem ve_X3_goRound_81 : zget kd_X3_goRound 81 = vb_X3_goRound_81.map vq ++ vrest kd_X3_goRound (some 87) := rfl
def vb_X3_goRound_87 : List VE := [(87, 6, 90, 2, 1), (90, 36, 93, 4, 0)]
theorem ve_X3_goRound_87 : zget kd_X3_goRound 87 = vb_X3_goRound_87.map vq ++ vrest kd_X3_goRound (some 93) := rfl
def vb_X3_goRound_93 : List VE := [(93, 1, 94, 1, 0), (94, 62, 95, 2, 0)]
theorem ve_X3_goRound_93 : zget kd_X3_goRound 93 = vb_X3_goRound_93.map vq ++ vrest kd_X3_goRound (none) := rfl
def vb_X3_turn_0 : List VE := [(0, 7, 1, 0, 0), (1, 3, 2, 3, 0), (2, 0, 3, 0, 0), (3, 49, 6, 3, 6), (6, 1, 7, 2, 0), (7, 51, 8, 0, 0), (8, 0, 9, 0, 0), (9, 49, 12, 3, 1), (12, 49, 15, 6, 5), (15, 1, 16, 1, 0), (16, 53, 17, 0, 0), (17, 1, 18, 2, 0), (18, 51, 19, 0, 0), (19, 15, 20, 0, 0), (20, 3, 22, 4, 0), (22, 7, 23, 0, 0), (23, 3, 25, 5, 0)]
theorem ve_X3_turn_0 : zget kd_X3_turn 0 = vb_X3_turn_0.map vq ++ vrest kd_X3_turn (some 25) := rfl
def vb_X3_turn_25 : List VE := [(25, 1, 27, 5, 0), (27, 0, 28, 0, 0), (28, 49, 31, 3, 0), (31, 49, 34, 1, 2), (34, 46, 37, 124, 0), (37, 1, 39, 5, 0), (39, 1, 40, 2, 0), (40, 43, 43, 118, 0), (43, 0, 44, 0, 0), (44, 1, 45, 1, 0), (45, 1, 47, 5, 0), (47, 61, 50, 36, 67), (50, 37, 53, 118, 0), (53, 1, 55, 4, 0), (55, 0, 56, 0, 0), (56, 49, 59, 3, 1), (59, 49, 62, 6, 5), (62, 1, 63, 1, 0), (63, 53, 64, 0, 0), (64, 1, 66, 5, 0), (66, 51, 67, 0, 0), (67, 14, 68, 0, 0), (68, 0, 69, 0, 0), (69, 49, 72, 3, 6), (72, 1, 74, 5, 0), (74, 51, 75, 0, 0), (75, 46, 78, 118, 0), (78, 0, 79, 0, 0), (79, 49, 82, 3, 6), (82, 1, 84, 5, 0), (84, 1, 86, 4, 0), (86, 0, 87, 0, 0), (87, 49, 90, 3, 1), (90, 49, 93, 6, 5), (93, 1, 94, 1, 0), (94, 53, 95, 0, 0), (95, 1, 97, 5, 0), (97, 51, 98, 0, 0), (98, 14, 99, 0, 0), (99, 52, 100, 0, 0), (100, 0, 101, 0, 0), (101, 49, 104, 3, 7), (104, 1, 106, 5, 0), (106, 1, 107, 1, 0), (107, 52, 108, 0, 0), (108, 0, 109, 0, 0), (109, 49, 112, 3, 8), (112, 1, 114, 5, 0), (114, 1, 115, 2, 0), (115, 52, 116, 0, 0), (116, 7, 117, 1, 0), (117, 3, 118, 3, 0)]
theorem ve_X3_turn_25 : zget kd_X3_turn 25 = vb_X3_turn_25.map vq ++ vrest kd_X3_turn (some 118) := rfl
def vb_X3_turn_118 : List VE := [(118, 6, 121, 5, 1), (121, 36, 124, 25, 0)]
theorem ve_X3_turn_118 : zget kd_X3_turn 118 = vb_X3_turn_118.map vq ++ vrest kd_X3_turn (some 124) := rfl
def vb_X3_turn_124 : List VE := [(124, 1, 125, 3, 0), (125, 62, 126, 2, 0)]
theorem ve_X3_turn_124 : zget kd_X3_turn 124 = vb_X3_turn_124.map vq ++ vrest kd_X3_turn (none) := rfl
def vb_X3_bringTo_0 : List VE := [(0, 0, 1, 0, 0), (1, 1, 2, 1, 0), (2, 61, 5, 42, 66), (5, 3, 6, 2, 0), (6, 0, 7, 0, 0), (7, 33, 8, 0, 0), (8, 49, 11, 3, 9), (11, 1, 12, 2, 0), (12, 14, 13, 0, 0), (13, 50, 16, 3, 9), (16, 0, 17, 0, 0), (17, 33, 18, 0, 0), (18, 49, 21, 3, 10), (21, 1, 22, 2, 0), (22, 0, 23, 0, 0), (23, 49, 26, 3, 6), (26, 1, 27, 1, 0), (27, 51, 28, 0, 0), (28, 16, 29, 0, 0), (29, 14, 30, 0, 0), (30, 50, 33, 3, 10), (33, 0, 34, 0, 0), (34, 49, 37, 3, 4), (37, 1, 38, 1, 0), (38, 34, 39, 0, 0), (39, 51, 40, 0, 0), (40, 1, 41, 2, 0), (41, 15, 42, 0, 0), (42, 52, 43, 0, 0), (43, 1, 44, 1, 0), (44, 3, 45, 3, 0), (45, 7, 46, 0, 0), (46, 3, 48, 4, 0)]
theorem ve_X3_bringTo_0 : zget kd_X3_bringTo 0 = vb_X3_bringTo_0.map vq ++ vrest kd_X3_bringTo (some 48) := rfl
def vb_X3_bringTo_48 : List VE := [(48, 1, 50, 4, 0), (50, 8, 52, 12, 0), (52, 46, 55, 136, 0), (55, 1, 56, 3, 0), (56, 7, 57, 4294967295, 0), (57, 43, 60, 136, 0), (60, 0, 61, 0, 0), (61, 49, 64, 3, 7), (64, 1, 65, 3, 0), (65, 51, 66, 0, 0), (66, 3, 68, 5, 0), (68, 0, 69, 0, 0), (69, 49, 72, 3, 5), (72, 1, 74, 5, 0), (74, 53, 75, 0, 0), (75, 1, 76, 3, 0), (76, 34, 77, 0, 0), (77, 51, 78, 0, 0), (78, 1, 79, 2, 0), (79, 14, 80, 0, 0), (80, 52, 81, 0, 0), (81, 0, 82, 0, 0), (82, 49, 85, 3, 8), (85, 1, 86, 3, 0), (86, 51, 87, 0, 0), (87, 7, 88, 4294967295, 0), (88, 44, 91, 105, 0), (91, 0, 92, 0, 0), (92, 49, 95, 3, 3), (95, 1, 97, 5, 0), (97, 34, 98, 0, 0), (98, 51, 99, 0, 0), (99, 1, 100, 2, 0), (100, 15, 101, 0, 0), (101, 52, 102, 0, 0), (102, 36, 105, 123, 0)]
theorem ve_X3_bringTo_48 : zget kd_X3_bringTo 48 = vb_X3_bringTo_48.map vq ++ vrest kd_X3_bringTo (some 105) := rfl
def vb_X3_bringTo_105 : List VE := [(105, 0, 106, 0, 0), (106, 49, 109, 3, 5), (109, 1, 111, 5, 0), (111, 53, 112, 0, 0), (112, 0, 113, 0, 0), (113, 49, 116, 3, 8), (116, 1, 117, 3, 0), (117, 51, 118, 0, 0), (118, 34, 119, 0, 0), (119, 51, 120, 0, 0), (120, 1, 121, 2, 0), (121, 15, 122, 0, 0), (122, 52, 123, 0, 0)]
theorem ve_X3_bringTo_105 : zget kd_X3_bringTo 105 = vb_X3_bringTo_105.map vq ++ vrest kd_X3_bringTo (some 123) := rfl
def vb_X3_bringTo_123 : List VE := [(123, 0, 124, 0, 0), (124, 49, 127, 3, 8), (127, 1, 128, 3, 0), (128, 51, 129, 0, 0), (129, 3, 130, 3, 0), (130, 6, 133, 4, 1), (133, 36, 136, 48, 0)]
theorem ve_X3_bringTo_123 : zget kd_X3_bringTo 123 = vb_X3_bringTo_123.map vq ++ vrest kd_X3_bringTo (some 136) := rfl
def vb_X3_bringTo_136 : List VE := [(136, 65, 137, 0, 0)]
theorem ve_X3_bringTo_136 : zget kd_X3_bringTo 136 = vb_X3_bringTo_136.map vq ++ vrest kd_X3_bringTo (none) := rfl
def vb_X3_mostTo_0 : List VE := [(0, 0, 1, 0, 0), (1, 49, 4, 3, 4), (4, 1, 5, 1, 0), (5, 51, 6, 0, 0), (6, 3, 7, 2, 0), (7, 1, 8, 1, 0), (8, 3, 9, 3, 0), (9, 7, 10, 0, 0), (10, 3, 12, 4, 0)]
theorem ve_X3_mostTo_0 : zget kd_X3_mostTo 0 = vb_X3_mostTo_0.map vq ++ vrest kd_X3_mostTo (some 12) := rfl
def vb_X3_mostTo_12 : List VE := [(12, 1, 14, 4, 0), (14, 8, 16, 12, 0), (16, 46, 19, 84, 0), (19, 1, 20, 3, 0), (20, 7, 21, 4294967295, 0), (21, 43, 24, 84, 0), (24, 0, 25, 0, 0), (25, 49, 28, 3, 7), (28, 1, 29, 3, 0), (29, 51, 30, 0, 0), (30, 3, 32, 5, 0), (32, 1, 33, 2, 0), (33, 0, 34, 0, 0), (34, 49, 37, 3, 8), (37, 1, 38, 3, 0), (38, 51, 39, 0, 0), (39, 7, 40, 4294967295, 0), (40, 44, 43, 53, 0), (43, 0, 44, 0, 0), (44, 49, 47, 3, 3), (47, 1, 49, 5, 0), (49, 51, 50, 0, 0), (50, 36, 53, 67, 0)]
theorem ve_X3_mostTo_12 : zget kd_X3_mostTo 12 = vb_X3_mostTo_12.map vq ++ vrest kd_X3_mostTo (some 53) := rfl
def vb_X3_mostTo_53 : List VE := [(53, 0, 54, 0, 0), (54, 49, 57, 3, 5), (57, 1, 59, 5, 0), (59, 53, 60, 0, 0), (60, 0, 61, 0, 0), (61, 49, 64, 3, 8), (64, 1, 65, 3, 0), (65, 51, 66, 0, 0), (66, 51, 67, 0, 0)]
theorem ve_X3_mostTo_53 : zget kd_X3_mostTo 53 = vb_X3_mostTo_53.map vq ++ vrest kd_X3_mostTo (some 67) := rfl
def vb_X3_mostTo_67 : List VE := [(67, 56, 70, 0, 0), (70, 3, 71, 2, 0), (71, 0, 72, 0, 0), (72, 49, 75, 3, 8), (75, 1, 76, 3, 0), (76, 51, 77, 0, 0), (77, 3, 78, 3, 0), (78, 6, 81, 4, 1), (81, 36, 84, 12, 0)]
theorem ve_X3_mostTo_67 : zget kd_X3_mostTo 67 = vb_X3_mostTo_67.map vq ++ vrest kd_X3_mostTo (some 84) := rfl
def vb_X3_mostTo_84 : List VE := [(84, 1, 85, 2, 0), (85, 62, 86, 0, 0)]
theorem ve_X3_mostTo_84 : zget kd_X3_mostTo 84 = vb_X3_mostTo_84.map vq ++ vrest kd_X3_mostTo (none) := rfl
def vb_X4_takeFrom_0 : List VE := [(0, 0, 1, 0, 0), (1, 7, 2, 0, 0), (2, 50, 5, 4, 2), (5, 0, 6, 0, 0), (6, 7, 7, 0, 0), (7, 50, 10, 4, 3), (10, 0, 11, 1, 0), (11, 61, 14, 94, 177), (14, 0, 15, 1, 0), (15, 49, 18, 10, 1), (18, 38, 21, 23, 0), (21, 7, 22, 0, 0), (22, 62, 23, 0, 0)]
theorem ve_X4_takeFrom_0 : zget kd_X4_takeFrom 0 = vb_X4_takeFrom_0.map vq ++ vrest kd_X4_takeFrom (some 23) := rfl
def vb_X4_takeFrom_23 : List VE := [(23, 0, 24, 0, 0), (24, 0, 25, 1, 0), (25, 7, 26, 1, 0), (26, 61, 29, 45, 83), (29, 38, 32, 34, 0), (32, 7, 33, 4294967295, 0), (33, 62, 34, 0, 0)]
theorem ve_X4_takeFrom_23 : zget kd_X4_takeFrom 23 = vb_X4_takeFrom_23.map vq ++ vrest kd_X4_takeFrom (some 34) := rfl
def vb_X4_takeFrom_34 : List VE := [(34, 0, 35, 1, 0), (35, 49, 38, 10, 2), (38, 0, 39, 1, 0), (39, 49, 42, 10, 1), (42, 46, 45, 56, 0), (45, 0, 46, 1, 0), (46, 0, 47, 1, 0), (47, 49, 50, 10, 2), (50, 61, 53, 96, 178), (53, 35, 54, 0, 0), (54, 7, 55, 4294967295, 0), (55, 62, 56, 0, 0)]
theorem ve_X4_takeFrom_34 : zget kd_X4_takeFrom 34 = vb_X4_takeFrom_34.map vq ++ vrest kd_X4_takeFrom (some 56) := rfl
def vb_X4_takeFrom_56 : List VE := [(56, 0, 57, 0, 0), (57, 49, 60, 4, 3), (60, 62, 61, 0, 0)]
theorem ve_X4_takeFrom_56 : zget kd_X4_takeFrom 56 = vb_X4_takeFrom_56.map vq ++ vrest kd_X4_takeFrom (none) := rfl
def vb_X4_takeSum_0 : List VE := [(0, 0, 1, 0, 0), (1, 0, 2, 1, 0), (2, 1, 3, 2, 0), (3, 61, 6, 46, 83), (6, 3, 7, 3, 0), (7, 7, 8, 0, 0), (8, 3, 10, 4, 0)]
theorem ve_X4_takeSum_0 : zget kd_X4_takeSum 0 = vb_X4_takeSum_0.map vq ++ vrest kd_X4_takeSum (some 10) := rfl
def vb_X4_takeSum_10 : List VE := [(10, 1, 12, 4, 0), (12, 8, 14, 30, 0), (14, 46, 17, 67, 0), (17, 1, 18, 3, 0), (18, 37, 21, 67, 0), (21, 0, 22, 1, 0), (22, 61, 25, 95, 177), (25, 60, 28, 48, 1), (28, 37, 31, 67, 0), (31, 0, 32, 1, 0), (32, 61, 35, 95, 177), (35, 3, 37, 5, 0), (37, 0, 38, 1, 0), (38, 33, 39, 0, 0), (39, 49, 42, 10, 2), (42, 7, 43, 1, 0), (43, 14, 44, 0, 0), (44, 50, 47, 10, 2), (47, 0, 48, 0, 0), (48, 0, 49, 1, 0), (49, 1, 50, 2, 0), (50, 61, 53, 46, 83), (53, 3, 54, 3, 0), (54, 0, 55, 0, 0), (55, 1, 57, 5, 0), (57, 25, 58, 0, 0), (58, 61, 61, 50, 82), (61, 6, 64, 4, 1), (64, 36, 67, 10, 0)]
theorem ve_X4_takeSum_10 : zget kd_X4_takeSum 10 = vb_X4_takeSum_10.map vq ++ vrest kd_X4_takeSum (some 67) := rfl
def vb_X4_takeSum_67 : List VE := [(67, 1, 68, 3, 0), (68, 62, 69, 2, 0)]
theorem ve_X4_takeSum_67 : zget kd_X4_takeSum 67 = vb_X4_takeSum_67.map vq ++ vrest kd_X4_takeSum (none) := rfl
def vb_X4_takeProduct_0 : List VE := [(0, 0, 1, 0, 0), (1, 0, 2, 1, 0), (2, 1, 3, 2, 0), (3, 61, 6, 47, 83), (6, 3, 7, 3, 0), (7, 7, 8, 0, 0), (8, 3, 10, 4, 0)]
theorem ve_X4_takeProduct_0 : zget kd_X4_takeProduct 0 = vb_X4_takeProduct_0.map vq ++ vrest kd_X4_takeProduct (some 10) := rfl
def vb_X4_takeProduct_10 : List VE := [(10, 1, 12, 4, 0), (12, 8, 14, 30, 0), (14, 46, 17, 67, 0), (17, 1, 18, 3, 0), (18, 37, 21, 67, 0), (21, 0, 22, 1, 0), (22, 61, 25, 95, 177), (25, 60, 28, 49, 1), (28, 37, 31, 67, 0), (31, 0, 32, 1, 0), (32, 61, 35, 95, 177), (35, 3, 37, 5, 0), (37, 0, 38, 1, 0), (38, 33, 39, 0, 0), (39, 49, 42, 10, 2), (42, 7, 43, 1, 0), (43, 14, 44, 0, 0), (44, 50, 47, 10, 2), (47, 0, 48, 0, 0), (48, 0, 49, 1, 0), (49, 1, 50, 2, 0), (50, 61, 53, 47, 83), (53, 3, 54, 3, 0), (54, 0, 55, 0, 0), (55, 1, 57, 5, 0), (57, 25, 58, 0, 0), (58, 61, 61, 50, 82), (61, 6, 64, 4, 1), (64, 36, 67, 10, 0)]
theorem ve_X4_takeProduct_10 : zget kd_X4_takeProduct 10 = vb_X4_takeProduct_10.map vq ++ vrest kd_X4_takeProduct (some 67) := rfl
def vb_X4_takeProduct_67 : List VE := [(67, 1, 68, 3, 0), (68, 62, 69, 2, 0)]
theorem ve_X4_takeProduct_67 : zget kd_X4_takeProduct 67 = vb_X4_takeProduct_67.map vq ++ vrest kd_X4_takeProduct (none) := rfl
def vb_X4_takeThing_0 : List VE := [(0, 0, 1, 0, 0), (1, 49, 4, 4, 3), (4, 8, 6, 30, 0), (6, 46, 9, 15, 0), (9, 1, 10, 2, 0), (10, 8, 12, 8, 0), (12, 48, 15, 24, 0)]
theorem ve_X4_takeThing_0 : zget kd_X4_takeThing 0 = vb_X4_takeThing_0.map vq ++ vrest kd_X4_takeThing (some 15) := rfl
def vb_X4_takeThing_15 : List VE := [(15, 0, 16, 1, 0), (16, 0, 17, 1, 0), (17, 49, 20, 10, 2), (20, 61, 23, 96, 178), (23, 62, 24, 2, 0)]
theorem ve_X4_takeThing_15 : zget kd_X4_takeThing 15 = vb_X4_takeThing_15.map vq ++ vrest kd_X4_takeThing (some 24) := rfl
def vb_X4_takeThing_24 : List VE := [(24, 0, 25, 0, 0), (25, 33, 26, 0, 0), (26, 49, 29, 4, 3), (29, 7, 30, 1, 0), (30, 14, 31, 0, 0), (31, 50, 34, 4, 3), (34, 0, 35, 1, 0), (35, 61, 38, 95, 177), (38, 3, 39, 3, 0), (39, 1, 40, 3, 0), (40, 8, 42, 40, 0), (42, 44, 45, 81, 0), (45, 0, 46, 1, 0), (46, 33, 47, 0, 0), (47, 49, 50, 10, 2), (50, 7, 51, 1, 0), (51, 14, 52, 0, 0), (52, 50, 55, 10, 2), (55, 0, 56, 0, 0), (56, 0, 57, 1, 0), (57, 1, 58, 2, 0), (58, 7, 59, 1, 0), (59, 14, 60, 0, 0), (60, 61, 63, 45, 83), (63, 37, 66, 79, 0), (66, 0, 67, 1, 0), (67, 8, 69, 41, 0), (69, 61, 72, 97, 178), (72, 37, 75, 79, 0), (75, 7, 76, 1, 0), (76, 36, 79, 80, 0)]
theorem ve_X4_takeThing_24 : zget kd_X4_takeThing 24 = vb_X4_takeThing_24.map vq ++ vrest kd_X4_takeThing (some 79) := rfl
def vb_X4_takeThing_79 : List VE := [(79, 7, 80, 0, 0)]
theorem ve_X4_takeThing_79 : zget kd_X4_takeThing 79 = vb_X4_takeThing_79.map vq ++ vrest kd_X4_takeThing (some 80) := rfl
def vb_X4_takeThing_80 : List VE := [(80, 62, 81, 2, 0)]
theorem ve_X4_takeThing_80 : zget kd_X4_takeThing 80 = vb_X4_takeThing_80.map vq ++ vrest kd_X4_takeThing (some 81) := rfl
def vb_X4_takeThing_81 : List VE := [(81, 1, 82, 3, 0), (82, 60, 85, 98, 1), (85, 37, 88, 99, 0), (88, 0, 89, 0, 0), (89, 0, 90, 1, 0), (90, 7, 91, 4, 0), (91, 61, 94, 100, 178), (94, 61, 97, 50, 82), (97, 7, 98, 1, 0), (98, 62, 99, 2, 0)]
theorem ve_X4_takeThing_81 : zget kd_X4_takeThing 81 = vb_X4_takeThing_81.map vq ++ vrest kd_X4_takeThing (some 99) := rfl
def vb_X4_takeThing_99 : List VE := [(99, 1, 100, 3, 0), (100, 8, 102, 115, 0), (102, 43, 105, 117, 0), (105, 1, 106, 3, 0), (106, 8, 108, 111, 0), (108, 43, 111, 117, 0), (111, 1, 112, 3, 0), (112, 8, 114, 99, 0), (114, 44, 117, 135, 0)]
theorem ve_X4_takeThing_99 : zget kd_X4_takeThing 99 = vb_X4_takeThing_99.map vq ++ vrest kd_X4_takeThing (some 117) := rfl
def vb_X4_takeThing_117 : List VE := [(117, 0, 118, 1, 0), (118, 33, 119, 0, 0), (119, 49, 122, 10, 2), (122, 7, 123, 1, 0), (123, 14, 124, 0, 0), (124, 50, 127, 10, 2), (127, 0, 128, 0, 0), (128, 1, 129, 3, 0), (129, 25, 130, 0, 0), (130, 61, 133, 50, 82), (133, 7, 134, 1, 0), (134, 62, 135, 2, 0)]
theorem ve_X4_takeThing_117 : zget kd_X4_takeThing 117 = vb_X4_takeThing_117.map vq ++ vrest kd_X4_takeThing (some 135) := rfl
def vb_X4_takeThing_135 : List VE := [(135, 0, 136, 1, 0), (136, 0, 137, 1, 0), (137, 49, 140, 10, 2), (140, 61, 143, 96, 178), (143, 62, 144, 2, 0)]
theorem ve_X4_takeThing_135 : zget kd_X4_takeThing 135 = vb_X4_takeThing_135.map vq ++ vrest kd_X4_takeThing (none) := rfl
def vb_X4_isSumSign_0 : List VE := [(0, 1, 1, 0, 0), (1, 8, 3, 43, 0), (3, 43, 6, 12, 0), (6, 1, 7, 0, 0), (7, 8, 9, 45, 0), (9, 44, 12, 16, 0)]
theorem ve_X4_isSumSign_0 : zget kd_X4_isSumSign 0 = vb_X4_isSumSign_0.map vq ++ vrest kd_X4_isSumSign (some 12) := rfl
def vb_X4_isSumSign_12 : List VE := [(12, 7, 13, 1, 0), (13, 36, 16, 17, 0)]
theorem ve_X4_isSumSign_12 : zget kd_X4_isSumSign 12 = vb_X4_isSumSign_12.map vq ++ vrest kd_X4_isSumSign (some 16) := rfl
def vb_X4_isSumSign_16 : List VE := [(16, 7, 17, 0, 0)]
theorem ve_X4_isSumSign_16 : zget kd_X4_isSumSign 16 = vb_X4_isSumSign_16.map vq ++ vrest kd_X4_isSumSign (some 17) := rfl
def vb_X4_isSumSign_17 : List VE := [(17, 62, 18, 2, 0)]
theorem ve_X4_isSumSign_17 : zget kd_X4_isSumSign 17 = vb_X4_isSumSign_17.map vq ++ vrest kd_X4_isSumSign (none) := rfl
def vb_X4_isProductSign_0 : List VE := [(0, 1, 1, 0, 0), (1, 8, 3, 42, 0), (3, 43, 6, 24, 0), (6, 1, 7, 0, 0), (7, 8, 9, 47, 0), (9, 43, 12, 24, 0), (12, 1, 13, 0, 0), (13, 8, 15, 60, 0), (15, 43, 18, 24, 0), (18, 1, 19, 0, 0), (19, 8, 21, 62, 0), (21, 44, 24, 28, 0)]
theorem ve_X4_isProductSign_0 : zget kd_X4_isProductSign 0 = vb_X4_isProductSign_0.map vq ++ vrest kd_X4_isProductSign (some 24) := rfl
def vb_X4_isProductSign_24 : List VE := [(24, 7, 25, 1, 0), (25, 36, 28, 29, 0)]
theorem ve_X4_isProductSign_24 : zget kd_X4_isProductSign 24 = vb_X4_isProductSign_24.map vq ++ vrest kd_X4_isProductSign (some 28) := rfl
def vb_X4_isProductSign_28 : List VE := [(28, 7, 29, 0, 0)]
theorem ve_X4_isProductSign_28 : zget kd_X4_isProductSign 28 = vb_X4_isProductSign_28.map vq ++ vrest kd_X4_isProductSign (some 29) := rfl
def vb_X4_isProductSign_29 : List VE := [(29, 62, 30, 2, 0)]
theorem ve_X4_isProductSign_29 : zget kd_X4_isProductSign 29 = vb_X4_isProductSign_29.map vq ++ vrest kd_X4_isProductSign (none) := rfl
def vb_X4_add_0 : List VE := [(0, 0, 1, 0, 0), (1, 49, 4, 4, 2), (4, 0, 5, 0, 0), (5, 49, 8, 4, 0), (8, 54, 9, 0, 0), (9, 46, 12, 32, 0), (12, 0, 13, 0, 0), (13, 49, 16, 4, 0), (16, 0, 17, 0, 0), (17, 49, 20, 4, 2), (20, 1, 21, 1, 0), (21, 52, 22, 0, 0), (22, 0, 23, 0, 0), (23, 33, 24, 0, 0), (24, 49, 27, 4, 2), (27, 7, 28, 1, 0), (28, 14, 29, 0, 0), (29, 50, 32, 4, 2)]
theorem ve_X4_add_0 : zget kd_X4_add 0 = vb_X4_add_0.map vq ++ vrest kd_X4_add (some 32) := rfl
def vb_X4_add_32 : List VE := [(32, 65, 33, 0, 0)]
theorem ve_X4_add_32 : zget kd_X4_add 32 = vb_X4_add_32.map vq ++ vrest kd_X4_add (none) := rfl
def vb_X4_agree_0 : List VE := [(0, 0, 1, 0, 0), (1, 49, 4, 4, 2), (4, 38, 7, 13, 0), (7, 1, 8, 1, 0), (8, 1, 9, 2, 0), (9, 56, 12, 0, 0), (12, 62, 13, 0, 0)]
theorem ve_X4_agree_0 : zget kd_X4_agree 0 = vb_X4_agree_0.map vq ++ vrest kd_X4_agree (some 13) := rfl
def vb_X4_agree_13 : List VE := [(13, 7, 14, 0, 0), (14, 3, 16, 4, 0), (16, 7, 17, 0, 0), (17, 3, 19, 5, 0)]
theorem ve_X4_agree_13 : zget kd_X4_agree 13 = vb_X4_agree_13.map vq ++ vrest kd_X4_agree (some 19) := rfl
def vb_X4_agree_19 : List VE := [(19, 1, 21, 5, 0), (21, 0, 22, 0, 0), (22, 49, 25, 4, 2), (25, 46, 28, 146, 0), (28, 0, 29, 0, 0), (29, 49, 32, 4, 0), (32, 1, 34, 5, 0), (34, 51, 35, 0, 0), (35, 3, 37, 6, 0), (37, 1, 39, 6, 0), (39, 25, 40, 0, 0), (40, 60, 43, 48, 1), (43, 38, 46, 55, 0), (46, 1, 48, 6, 0), (48, 25, 49, 0, 0), (49, 60, 52, 49, 1), (52, 37, 55, 59, 0)]
theorem ve_X4_agree_19 : zget kd_X4_agree 19 = vb_X4_agree_19.map vq ++ vrest kd_X4_agree (some 55) := rfl
def vb_X4_agree_55 : List VE := [(55, 7, 56, 1, 0), (56, 36, 59, 60, 0)]
theorem ve_X4_agree_55 : zget kd_X4_agree 55 = vb_X4_agree_55.map vq ++ vrest kd_X4_agree (some 59) := rfl
def vb_X4_agree_59 : List VE := [(59, 7, 60, 0, 0)]
theorem ve_X4_agree_59 : zget kd_X4_agree 59 = vb_X4_agree_59.map vq ++ vrest kd_X4_agree (some 60) := rfl
def vb_X4_agree_60 : List VE := [(60, 3, 62, 7, 0), (62, 1, 64, 7, 0), (64, 37, 67, 110, 0), (67, 1, 69, 4, 0), (69, 7, 70, 2, 0), (70, 45, 73, 110, 0), (73, 6, 76, 4, 4294967295), (76, 0, 77, 0, 0), (77, 49, 80, 4, 1), (80, 1, 82, 4, 0), (82, 7, 83, 1, 0), (83, 15, 84, 0, 0), (84, 1, 86, 6, 0), (86, 25, 87, 0, 0), (87, 0, 88, 0, 0), (88, 49, 91, 4, 1), (91, 1, 93, 4, 0), (93, 7, 94, 1, 0), (94, 15, 95, 0, 0), (95, 51, 96, 0, 0), (96, 0, 97, 0, 0), (97, 49, 100, 4, 1), (100, 1, 102, 4, 0), (102, 51, 103, 0, 0), (103, 60, 106, 53, 3), (106, 52, 107, 0, 0), (107, 36, 110, 140, 0)]
theorem ve_X4_agree_60 : zget kd_X4_agree 60 = vb_X4_agree_60.map vq ++ vrest kd_X4_agree (some 110) := rfl
def vb_X4_agree_110 : List VE := [(110, 1, 112, 7, 0), (112, 38, 115, 140, 0), (115, 1, 117, 4, 0), (117, 8, 119, 30, 0), (119, 46, 122, 140, 0), (122, 0, 123, 0, 0), (123, 49, 126, 4, 1), (126, 1, 128, 4, 0), (128, 1, 130, 6, 0), (130, 1, 131, 1, 0), (131, 1, 132, 2, 0), (132, 1, 133, 3, 0), (133, 60, 136, 52, 4), (136, 52, 137, 0, 0), (137, 6, 140, 4, 1)]
theorem ve_X4_agree_110 : zget kd_X4_agree 110 = vb_X4_agree_110.map vq ++ vrest kd_X4_agree (some 140) := rfl
def vb_X4_agree_140 : List VE := [(140, 6, 143, 5, 1), (143, 36, 146, 19, 0)]
theorem ve_X4_agree_140 : zget kd_X4_agree 140 = vb_X4_agree_140.map vq ++ vrest kd_X4_agree (some 146) := rfl
def vb_X4_agree_146 : List VE := [(146, 7, 147, 0, 0), (147, 10, 149, 1000000, 0), (149, 0, 150, 0, 0), (150, 49, 153, 4, 1), (153, 7, 154, 0, 0), (154, 51, 155, 0, 0), (155, 56, 158, 0, 0), (158, 55, 161, 0, 0), (161, 62, 162, 0, 0)]
theorem ve_X4_agree_146 : zget kd_X4_agree 146 = vb_X4_agree_146.map vq ++ vrest kd_X4_agree (none) := rfl
def vb_X4_valueOf_0 : List VE := [(0, 1, 1, 0, 0), (1, 25, 2, 0, 0), (2, 101, 36, 0, 0)]
theorem ve_X4_valueOf_0 : zget kd_X4_valueOf 0 = vb_X4_valueOf_0.map vq ++ vrest kd_X4_valueOf (some 36) := rfl
def vb_X4_valueOf_36 : List VE := [(36, 1, 37, 1, 0), (37, 62, 38, 0, 0)]
theorem ve_X4_valueOf_36 : zget kd_X4_valueOf 36 = vb_X4_valueOf_36.map vq ++ vrest kd_X4_valueOf (some 38) := rfl
def vb_X4_valueOf_38 : List VE := [(38, 1, 39, 2, 0), (39, 62, 40, 0, 0)]
theorem ve_X4_valueOf_38 : zget kd_X4_valueOf 38 = vb_X4_valueOf_38.map vq ++ vrest kd_X4_valueOf (some 40) := rfl
def vb_X4_valueOf_40 : List VE := [(40, 1, 41, 3, 0), (41, 62, 42, 0, 0)]
theorem ve_X4_valueOf_40 : zget kd_X4_valueOf 40 = vb_X4_valueOf_40.map vq ++ vrest kd_X4_valueOf (some 42) := rfl
def vb_X4_valueOf_42 : List VE := [(42, 1, 43, 0, 0), (43, 62, 44, 0, 0)]
theorem ve_X4_valueOf_42 : zget kd_X4_valueOf 42 = vb_X4_valueOf_42.map vq ++ vrest kd_X4_valueOf (none) := rfl
def vb_X4_join_0 : List VE := [(0, 1, 1, 0, 0), (1, 102, 52, 0, 0)]
theorem ve_X4_join_0 : zget kd_X4_join 0 = vb_X4_join_0.map vq ++ vrest kd_X4_join (some 52) := rfl
def vb_X4_join_52 : List VE := [(52, 1, 53, 1, 0), (53, 1, 54, 2, 0), (54, 14, 55, 0, 0), (55, 62, 56, 0, 0)]
theorem ve_X4_join_52 : zget kd_X4_join 52 = vb_X4_join_52.map vq ++ vrest kd_X4_join (some 56) := rfl
def vb_X4_join_56 : List VE := [(56, 1, 57, 1, 0), (57, 1, 58, 2, 0), (58, 15, 59, 0, 0), (59, 62, 60, 0, 0)]
theorem ve_X4_join_56 : zget kd_X4_join 56 = vb_X4_join_56.map vq ++ vrest kd_X4_join (some 60) := rfl
def vb_X4_join_60 : List VE := [(60, 1, 61, 1, 0), (61, 1, 62, 2, 0), (62, 16, 63, 0, 0), (63, 62, 64, 0, 0)]
theorem ve_X4_join_60 : zget kd_X4_join 60 = vb_X4_join_60.map vq ++ vrest kd_X4_join (some 64) := rfl
def vb_X4_join_64 : List VE := [(64, 1, 65, 2, 0), (65, 38, 68, 72, 0), (68, 7, 69, 0, 0), (69, 36, 72, 75, 0)]
theorem ve_X4_join_64 : zget kd_X4_join 64 = vb_X4_join_64.map vq ++ vrest kd_X4_join (some 72) := rfl
def vb_X4_join_72 : List VE := [(72, 1, 73, 1, 0), (73, 1, 74, 2, 0), (74, 17, 75, 0, 0)]
theorem ve_X4_join_72 : zget kd_X4_join 72 = vb_X4_join_72.map vq ++ vrest kd_X4_join (some 75) := rfl
def vb_X4_join_75 : List VE := [(75, 62, 76, 0, 0)]
theorem ve_X4_join_75 : zget kd_X4_join 75 = vb_X4_join_75.map vq ++ vrest kd_X4_join (some 76) := rfl
def vb_X4_join_76 : List VE := [(76, 1, 77, 1, 0), (77, 1, 78, 2, 0), (78, 56, 81, 0, 0), (81, 62, 82, 0, 0)]
theorem ve_X4_join_76 : zget kd_X4_join 76 = vb_X4_join_76.map vq ++ vrest kd_X4_join (some 82) := rfl
def vb_X4_join_82 : List VE := [(82, 1, 83, 1, 0), (83, 1, 84, 2, 0), (84, 55, 87, 0, 0), (87, 62, 88, 0, 0)]
theorem ve_X4_join_82 : zget kd_X4_join 82 = vb_X4_join_82.map vq ++ vrest kd_X4_join (none) := rfl
def vb_X5_couldMend_0 : List VE := [(0, 0, 1, 0, 0), (1, 49, 4, 5, 0), (4, 38, 7, 16, 0), (7, 0, 8, 0, 0), (8, 49, 11, 5, 2), (11, 1, 12, 1, 0), (12, 15, 13, 0, 0), (13, 36, 16, 22, 0)]
theorem ve_X5_couldMend_0 : zget kd_X5_couldMend 0 = vb_X5_couldMend_0.map vq ++ vrest kd_X5_couldMend (some 16) := rfl
def vb_X5_couldMend_16 : List VE := [(16, 0, 17, 0, 0), (17, 49, 20, 5, 2), (20, 1, 21, 1, 0), (21, 14, 22, 0, 0)]
theorem ve_X5_couldMend_16 : zget kd_X5_couldMend 16 = vb_X5_couldMend_16.map vq ++ vrest kd_X5_couldMend (some 22) := rfl
def vb_X5_couldMend_22 : List VE := [(22, 7, 23, 1, 0), (23, 9, 26, 999, 0), (26, 60, 29, 145, 3), (29, 62, 30, 2, 0)]
theorem ve_X5_couldMend_22 : zget kd_X5_couldMend 22 = vb_X5_couldMend_22.map vq ++ vrest kd_X5_couldMend (none) := rfl
def vb_X6_refresh_0 : List VE := [(0, 0, 1, 0, 0), (1, 49, 4, 6, 2), (4, 37, 7, 8, 0), (7, 65, 8, 0, 0)]
theorem ve_X6_refresh_0 : zget kd_X6_refresh 0 = vb_X6_refresh_0.map vq ++ vrest kd_X6_refresh (some 8) := rfl
def vb_X6_refresh_8 : List VE := [(8, 0, 9, 0, 0), (9, 7, 10, 1, 0), (10, 50, 13, 6, 130), (13, 0, 14, 0, 0), (14, 8, 16, 12, 0), (16, 0, 17, 0, 0), (17, 49, 20, 6, 1), (20, 49, 23, 9, 4), (23, 14, 24, 0, 0), (24, 50, 27, 6, 6), (27, 0, 28, 0, 0), (28, 7, 29, 0, 0), (29, 50, 32, 6, 10), (32, 0, 33, 0, 0), (33, 7, 34, 0, 0), (34, 50, 37, 6, 11), (37, 0, 38, 0, 0), (38, 61, 41, 58, 113), (41, 7, 42, 0, 0), (42, 3, 43, 1, 0)]
theorem ve_X6_refresh_8 : zget kd_X6_refresh 8 = vb_X6_refresh_8.map vq ++ vrest kd_X6_refresh (some 43) := rfl
def vb_X6_refresh_43 : List VE := [(43, 1, 44, 1, 0), (44, 0, 45, 0, 0), (45, 49, 48, 6, 6), (48, 46, 51, 104, 0), (51, 0, 52, 0, 0), (52, 49, 55, 6, 3), (55, 1, 56, 1, 0), (56, 1, 57, 1, 0), (57, 8, 59, 12, 0), (59, 46, 62, 71, 0), (62, 0, 63, 0, 0), (63, 49, 66, 6, 3), (66, 1, 67, 1, 0), (67, 51, 68, 0, 0), (68, 36, 71, 80, 0)]
theorem ve_X6_refresh_43 : zget kd_X6_refresh 43 = vb_X6_refresh_43.map vq ++ vrest kd_X6_refresh (some 71) := rfl
def vb_X6_refresh_71 : List VE := [(71, 0, 72, 0, 0), (72, 49, 75, 6, 1), (75, 49, 78, 9, 7), (78, 1, 79, 1, 0), (79, 51, 80, 0, 0)]
theorem ve_X6_refresh_71 : zget kd_X6_refresh 71 = vb_X6_refresh_71.map vq ++ vrest kd_X6_refresh (some 80) := rfl
def vb_X6_refresh_80 : List VE := [(80, 52, 81, 0, 0), (81, 0, 82, 0, 0), (82, 49, 85, 6, 7), (85, 1, 86, 1, 0), (86, 0, 87, 0, 0), (87, 49, 90, 6, 3), (90, 1, 91, 1, 0), (91, 51, 92, 0, 0), (92, 52, 93, 0, 0), (93, 0, 94, 0, 0), (94, 1, 95, 1, 0), (95, 61, 98, 59, 114), (98, 6, 101, 1, 1), (101, 36, 104, 43, 0)]
theorem ve_X6_refresh_80 : zget kd_X6_refresh 80 = vb_X6_refresh_80.map vq ++ vrest kd_X6_refresh (some 104) := rfl
def vb_X6_refresh_104 : List VE := [(104, 7, 105, 0, 0), (105, 3, 106, 1, 0)]
theorem ve_X6_refresh_104 : zget kd_X6_refresh 104 = vb_X6_refresh_104.map vq ++ vrest kd_X6_refresh (some 106) := rfl
def vb_X6_refresh_106 : List VE := [(106, 1, 107, 1, 0), (107, 0, 108, 0, 0), (108, 49, 111, 6, 0), (111, 49, 114, 1, 8), (114, 47, 117, 154, 0), (117, 7, 118, 0, 0), (118, 3, 119, 2, 0)]
theorem ve_X6_refresh_106 : zget kd_X6_refresh 106 = vb_X6_refresh_106.map vq ++ vrest kd_X6_refresh (some 119) := rfl
def vb_X6_refresh_119 : List VE := [(119, 1, 120, 2, 0), (120, 0, 121, 0, 0), (121, 49, 124, 6, 6), (124, 46, 127, 148, 0), (127, 0, 128, 0, 0), (128, 49, 131, 6, 7), (131, 1, 132, 2, 0), (132, 51, 133, 0, 0), (133, 42, 136, 142, 0), (136, 0, 137, 0, 0), (137, 1, 138, 2, 0), (138, 1, 139, 1, 0), (139, 61, 142, 60, 115)]
theorem ve_X6_refresh_119 : zget kd_X6_refresh 119 = vb_X6_refresh_119.map vq ++ vrest kd_X6_refresh (some 142) := rfl
def vb_X6_refresh_142 : List VE := [(142, 6, 145, 2, 1), (145, 36, 148, 119, 0)]
theorem ve_X6_refresh_142 : zget kd_X6_refresh 142 = vb_X6_refresh_142.map vq ++ vrest kd_X6_refresh (some 148) := rfl
def vb_X6_refresh_148 : List VE := [(148, 6, 151, 1, 1), (151, 36, 154, 106, 0)]
theorem ve_X6_refresh_148 : zget kd_X6_refresh 148 = vb_X6_refresh_148.map vq ++ vrest kd_X6_refresh (some 154) := rfl
def vb_X6_refresh_154 : List VE := [(154, 65, 155, 0, 0)]
theorem ve_X6_refresh_154 : zget kd_X6_refresh 154 = vb_X6_refresh_154.map vq ++ vrest kd_X6_refresh (none) := rfl
def vb_X6_weighBills_0 : List VE := [(0, 7, 1, 0, 0), (1, 3, 2, 1, 0)]
theorem ve_X6_weighBills_0 : zget kd_X6_weighBills 0 = vb_X6_weighBills_0.map vq ++ vrest kd_X6_weighBills (some 2) := rfl
def vb_X6_weighBills_2 : List VE := [(2, 1, 3, 1, 0), (3, 8, 5, 12, 0), (5, 46, 8, 105, 0), (8, 1, 9, 1, 0), (9, 0, 10, 0, 0), (10, 49, 13, 6, 0), (13, 49, 16, 1, 2), (16, 46, 19, 34, 0), (19, 0, 20, 0, 0), (20, 49, 23, 6, 0), (23, 49, 26, 1, 1), (26, 1, 27, 1, 0), (27, 53, 28, 0, 0), (28, 61, 31, 3, 17), (31, 36, 34, 35, 0)]
theorem ve_X6_weighBills_2 : zget kd_X6_weighBills 2 = vb_X6_weighBills_2.map vq ++ vrest kd_X6_weighBills (some 34) := rfl
def vb_X6_weighBills_34 : List VE := [(34, 7, 35, 0, 0)]
theorem ve_X6_weighBills_34 : zget kd_X6_weighBills 34 = vb_X6_weighBills_34.map vq ++ vrest kd_X6_weighBills (some 35) := rfl
def vb_X6_weighBills_35 : List VE := [(35, 3, 36, 2, 0), (36, 1, 37, 1, 0), (37, 0, 38, 0, 0), (38, 49, 41, 6, 0), (41, 49, 44, 1, 2), (44, 46, 47, 59, 0), (47, 0, 48, 0, 0), (48, 49, 51, 6, 1), (51, 49, 54, 9, 7), (54, 1, 55, 1, 0), (55, 51, 56, 0, 0), (56, 36, 59, 60, 0)]
theorem ve_X6_weighBills_35 : zget kd_X6_weighBills 35 = vb_X6_weighBills_35.map vq ++ vrest kd_X6_weighBills (some 59) := rfl
def vb_X6_weighBills_59 : List VE := [(59, 7, 60, 0, 0)]
theorem ve_X6_weighBills_59 : zget kd_X6_weighBills 59 = vb_X6_weighBills_59.map vq ++ vrest kd_X6_weighBills (some 60) := rfl
def vb_X6_weighBills_60 : List VE := [(60, 3, 61, 3, 0), (61, 0, 62, 0, 0), (62, 49, 65, 6, 3), (65, 1, 66, 1, 0), (66, 7, 67, 0, 0), (67, 1, 68, 3, 0), (68, 1, 69, 2, 0), (69, 15, 70, 0, 0), (70, 55, 73, 0, 0), (73, 52, 74, 0, 0), (74, 0, 75, 0, 0), (75, 49, 78, 6, 4), (78, 1, 79, 1, 0), (79, 7, 80, 0, 0), (80, 1, 81, 2, 0), (81, 1, 82, 3, 0), (82, 15, 83, 0, 0), (83, 55, 86, 0, 0), (86, 52, 87, 0, 0), (87, 0, 88, 0, 0), (88, 49, 91, 6, 8), (91, 1, 92, 1, 0), (92, 0, 93, 0, 0), (93, 49, 96, 6, 4), (96, 1, 97, 1, 0), (97, 51, 98, 0, 0), (98, 52, 99, 0, 0), (99, 6, 102, 1, 1), (102, 36, 105, 2, 0)]
theorem ve_X6_weighBills_60 : zget kd_X6_weighBills 60 = vb_X6_weighBills_60.map vq ++ vrest kd_X6_weighBills (some 105) := rfl
def vb_X6_weighBills_105 : List VE := [(105, 65, 106, 0, 0)]
theorem ve_X6_weighBills_105 : zget kd_X6_weighBills 105 = vb_X6_weighBills_105.map vq ++ vrest kd_X6_weighBills (none) := rfl
def vb_X6_measure_0 : List VE := [(0, 7, 1, 0, 0), (1, 3, 2, 2, 0)]
theorem ve_X6_measure_0 : zget kd_X6_measure 0 = vb_X6_measure_0.map vq ++ vrest kd_X6_measure (some 2) := rfl
def vb_X6_measure_2 : List VE := [(2, 1, 3, 2, 0), (3, 8, 5, 12, 0), (5, 46, 8, 113, 0), (8, 0, 9, 0, 0), (9, 49, 12, 6, 9), (12, 1, 13, 1, 0), (13, 53, 14, 0, 0), (14, 1, 15, 2, 0), (15, 7, 16, 0, 0), (16, 52, 17, 0, 0), (17, 0, 18, 0, 0), (18, 49, 21, 6, 3), (21, 1, 22, 1, 0), (22, 51, 23, 0, 0), (23, 42, 26, 107, 0), (26, 0, 27, 0, 0), (27, 49, 30, 6, 4), (30, 1, 31, 2, 0), (31, 51, 32, 0, 0), (32, 42, 35, 107, 0), (35, 0, 36, 0, 0), (36, 49, 39, 6, 5), (39, 1, 40, 1, 0), (40, 53, 41, 0, 0), (41, 1, 42, 2, 0), (42, 1, 43, 1, 0), (43, 8, 45, 12, 0), (45, 46, 48, 85, 0), (48, 0, 49, 0, 0), (49, 49, 52, 6, 0), (52, 49, 55, 1, 0), (55, 0, 56, 0, 0), (56, 49, 59, 6, 0), (59, 49, 62, 1, 1), (62, 1, 63, 1, 0), (63, 53, 64, 0, 0), (64, 49, 67, 0, 0), (67, 0, 68, 0, 0), (68, 49, 71, 6, 0), (71, 49, 74, 1, 1), (74, 1, 75, 2, 0), (75, 53, 76, 0, 0), (76, 49, 79, 0, 0), (79, 61, 82, 85, 147), (82, 36, 85, 106, 0)]
theorem ve_X6_measure_2 : zget kd_X6_measure 2 = vb_X6_measure_2.map vq ++ vrest kd_X6_measure (some 85) := rfl
def vb_X6_measure_85 : List VE := [(85, 0, 86, 0, 0), (86, 49, 89, 6, 0), (89, 0, 90, 0, 0), (90, 49, 93, 6, 1), (93, 49, 96, 9, 3), (96, 1, 97, 1, 0), (97, 8, 99, 12, 0), (99, 15, 100, 0, 0), (100, 51, 101, 0, 0), (101, 61, 104, 15, 34), (104, 1, 105, 2, 0), (105, 51, 106, 0, 0)]
theorem ve_X6_measure_85 : zget kd_X6_measure 85 = vb_X6_measure_85.map vq ++ vrest kd_X6_measure (some 106) := rfl
def vb_X6_measure_106 : List VE := [(106, 52, 107, 0, 0)]
theorem ve_X6_measure_106 : zget kd_X6_measure 106 = vb_X6_measure_106.map vq ++ vrest kd_X6_measure (some 107) := rfl
def vb_X6_measure_107 : List VE := [(107, 6, 110, 2, 1), (110, 36, 113, 2, 0)]
theorem ve_X6_measure_107 : zget kd_X6_measure 107 = vb_X6_measure_107.map vq ++ vrest kd_X6_measure (some 113) := rfl
def vb_X6_measure_113 : List VE := [(113, 65, 114, 0, 0)]
theorem ve_X6_measure_113 : zget kd_X6_measure 113 = vb_X6_measure_113.map vq ++ vrest kd_X6_measure (none) := rfl
def vb_X6_moveFrom_0 : List VE := [(0, 7, 1, 0, 0), (1, 3, 2, 3, 0)]
theorem ve_X6_moveFrom_0 : zget kd_X6_moveFrom 0 = vb_X6_moveFrom_0.map vq ++ vrest kd_X6_moveFrom (some 2) := rfl
def vb_X6_moveFrom_2 : List VE := [(2, 1, 3, 3, 0), (3, 0, 4, 0, 0), (4, 49, 7, 6, 0), (7, 49, 10, 1, 2), (10, 46, 13, 116, 0), (13, 0, 14, 0, 0), (14, 49, 17, 6, 8), (17, 1, 18, 3, 0), (18, 51, 19, 0, 0), (19, 42, 22, 110, 0), (22, 0, 23, 0, 0), (23, 49, 26, 6, 5), (26, 1, 27, 1, 0), (27, 53, 28, 0, 0), (28, 1, 29, 3, 0), (29, 51, 30, 0, 0), (30, 1, 31, 2, 0), (31, 44, 34, 110, 0), (34, 0, 35, 0, 0), (35, 49, 38, 6, 7), (38, 1, 39, 1, 0), (39, 51, 40, 0, 0), (40, 0, 41, 0, 0), (41, 49, 44, 6, 8), (44, 1, 45, 3, 0), (45, 51, 46, 0, 0), (46, 56, 49, 0, 0), (49, 3, 51, 4, 0), (51, 0, 52, 0, 0), (52, 49, 55, 6, 7), (55, 1, 56, 1, 0), (56, 34, 57, 0, 0), (57, 51, 58, 0, 0), (58, 1, 60, 4, 0), (60, 15, 61, 0, 0), (61, 52, 62, 0, 0), (62, 0, 63, 0, 0), (63, 49, 66, 6, 8), (66, 1, 67, 3, 0), (67, 34, 68, 0, 0), (68, 51, 69, 0, 0), (69, 1, 71, 4, 0), (71, 15, 72, 0, 0), (72, 52, 73, 0, 0), (73, 0, 74, 0, 0), (74, 49, 77, 6, 9), (77, 1, 78, 1, 0), (78, 53, 79, 0, 0), (79, 1, 80, 3, 0), (80, 34, 81, 0, 0), (81, 51, 82, 0, 0), (82, 1, 84, 4, 0), (84, 14, 85, 0, 0), (85, 52, 86, 0, 0), (86, 0, 87, 0, 0), (87, 33, 88, 0, 0), (88, 49, 91, 6, 10), (91, 1, 93, 4, 0), (93, 14, 94, 0, 0), (94, 50, 97, 6, 10), (97, 0, 98, 0, 0), (98, 33, 99, 0, 0), (99, 49, 102, 6, 11), (102, 1, 104, 4, 0), (104, 1, 105, 2, 0), (105, 16, 106, 0, 0), (106, 14, 107, 0, 0), (107, 50, 110, 6, 11)]
theorem ve_X6_moveFrom_2 : zget kd_X6_moveFrom 2 = vb_X6_moveFrom_2.map vq ++ vrest kd_X6_moveFrom (some 110) := rfl
def vb_X6_moveFrom_110 : List VE := [(110, 6, 113, 3, 1), (113, 36, 116, 2, 0)]
theorem ve_X6_moveFrom_110 : zget kd_X6_moveFrom 110 = vb_X6_moveFrom_110.map vq ++ vrest kd_X6_moveFrom (some 116) := rfl
def vb_X6_moveFrom_116 : List VE := [(116, 65, 117, 0, 0)]
theorem ve_X6_moveFrom_116 : zget kd_X6_moveFrom 116 = vb_X6_moveFrom_116.map vq ++ vrest kd_X6_moveFrom (none) := rfl
def vb_X6_broughtTo_0 : List VE := [(0, 0, 1, 0, 0), (1, 49, 4, 6, 4), (4, 1, 5, 1, 0), (5, 51, 6, 0, 0), (6, 0, 7, 0, 0), (7, 49, 10, 6, 8), (10, 1, 11, 1, 0), (11, 51, 12, 0, 0), (12, 15, 13, 0, 0), (13, 62, 14, 0, 0)]
theorem ve_X6_broughtTo_0 : zget kd_X6_broughtTo 0 = vb_X6_broughtTo_0.map vq ++ vrest kd_X6_broughtTo (none) := rfl
def vb_X7_gather_0 : List VE := [(0, 0, 1, 0, 0), (1, 49, 4, 7, 1), (4, 8, 6, 4294967294, 0), (6, 61, 9, 90, 162), (9, 3, 10, 1, 0), (10, 1, 11, 1, 0), (11, 7, 12, 1, 0), (12, 7, 13, 5, 0), (13, 60, 16, 145, 3), (16, 38, 19, 21, 0), (19, 7, 20, 0, 0), (20, 62, 21, 2, 0)]
theorem ve_X7_gather_0 : zget kd_X7_gather 0 = vb_X7_gather_0.map vq ++ vrest kd_X7_gather (some 21) := rfl
def vb_X7_gather_21 : List VE := [(21, 0, 22, 0, 0), (22, 7, 23, 0, 0), (23, 50, 26, 7, 3), (26, 7, 27, 0, 0), (27, 3, 28, 2, 0)]
theorem ve_X7_gather_21 : zget kd_X7_gather 21 = vb_X7_gather_21.map vq ++ vrest kd_X7_gather (some 28) := rfl
def vb_X7_gather_28 : List VE := [(28, 1, 29, 2, 0), (29, 0, 30, 0, 0), (30, 49, 33, 7, 0), (33, 49, 36, 1, 4), (36, 46, 39, 87, 0), (39, 0, 40, 0, 0), (40, 49, 43, 7, 1), (43, 49, 46, 9, 2), (46, 1, 47, 2, 0), (47, 51, 48, 0, 0), (48, 8, 50, 4294967294, 0), (50, 44, 53, 81, 0), (53, 0, 54, 0, 0), (54, 49, 57, 7, 3), (57, 7, 58, 5, 0), (58, 46, 61, 81, 0), (61, 0, 62, 0, 0), (62, 49, 65, 7, 2), (65, 0, 66, 0, 0), (66, 49, 69, 7, 3), (69, 1, 70, 2, 0), (70, 52, 71, 0, 0), (71, 0, 72, 0, 0), (72, 33, 73, 0, 0), (73, 49, 76, 7, 3), (76, 7, 77, 1, 0), (77, 14, 78, 0, 0), (78, 50, 81, 7, 3)]
theorem ve_X7_gather_28 : zget kd_X7_gather 28 = vb_X7_gather_28.map vq ++ vrest kd_X7_gather (some 81) := rfl
def vb_X7_gather_81 : List VE := [(81, 6, 84, 2, 1), (84, 36, 87, 28, 0)]
theorem ve_X7_gather_81 : zget kd_X7_gather 81 = vb_X7_gather_81.map vq ++ vrest kd_X7_gather (some 87) := rfl
def vb_X7_gather_87 : List VE := [(87, 7, 88, 0, 0), (88, 3, 89, 2, 0)]
theorem ve_X7_gather_87 : zget kd_X7_gather 87 = vb_X7_gather_87.map vq ++ vrest kd_X7_gather (some 89) := rfl
def vb_X7_gather_89 : List VE := [(89, 1, 90, 2, 0), (90, 0, 91, 0, 0), (91, 49, 94, 7, 0), (94, 49, 97, 1, 2), (97, 46, 100, 159, 0), (100, 0, 101, 0, 0), (101, 49, 104, 7, 4), (104, 1, 105, 2, 0), (105, 7, 106, 0, 0), (106, 52, 107, 0, 0), (107, 7, 108, 0, 0), (108, 3, 109, 3, 0)]
theorem ve_X7_gather_89 : zget kd_X7_gather 89 = vb_X7_gather_89.map vq ++ vrest kd_X7_gather (some 109) := rfl
def vb_X7_gather_109 : List VE := [(109, 1, 110, 3, 0), (110, 0, 111, 0, 0), (111, 49, 114, 7, 3), (114, 46, 117, 148, 0), (117, 0, 118, 0, 0), (118, 49, 121, 7, 4), (121, 1, 122, 2, 0), (122, 34, 123, 0, 0), (123, 51, 124, 0, 0), (124, 0, 125, 0, 0), (125, 1, 126, 3, 0), (126, 1, 127, 2, 0), (127, 61, 130, 64, 131), (130, 37, 133, 139, 0), (133, 7, 134, 1, 0), (134, 1, 135, 3, 0), (135, 22, 136, 0, 0), (136, 36, 139, 140, 0)]
theorem ve_X7_gather_109 : zget kd_X7_gather 109 = vb_X7_gather_109.map vq ++ vrest kd_X7_gather (some 139) := rfl
def vb_X7_gather_139 : List VE := [(139, 7, 140, 0, 0)]
theorem ve_X7_gather_139 : zget kd_X7_gather 139 = vb_X7_gather_139.map vq ++ vrest kd_X7_gather (some 140) := rfl
def vb_X7_gather_140 : List VE := [(140, 20, 141, 0, 0), (141, 52, 142, 0, 0), (142, 6, 145, 3, 1), (145, 36, 148, 109, 0)]
theorem ve_X7_gather_140 : zget kd_X7_gather 140 = vb_X7_gather_140.map vq ++ vrest kd_X7_gather (some 148) := rfl
def vb_X7_gather_148 : List VE := [(148, 0, 149, 0, 0), (149, 1, 150, 2, 0), (150, 61, 153, 65, 130), (153, 6, 156, 2, 1), (156, 36, 159, 89, 0)]
theorem ve_X7_gather_148 : zget kd_X7_gather 148 = vb_X7_gather_148.map vq ++ vrest kd_X7_gather (some 159) := rfl
def vb_X7_gather_159 : List VE := [(159, 7, 160, 1, 0), (160, 62, 161, 2, 0)]
theorem ve_X7_gather_159 : zget kd_X7_gather 159 = vb_X7_gather_159.map vq ++ vrest kd_X7_gather (none) := rfl
def vb_X7_isNearest_0 : List VE := [(0, 0, 1, 0, 0), (1, 49, 4, 7, 0), (4, 0, 5, 0, 0), (5, 49, 8, 7, 2), (8, 1, 9, 1, 0), (9, 51, 10, 0, 0), (10, 61, 13, 15, 34), (13, 4, 14, 3, 0), (14, 7, 15, 0, 0), (15, 3, 17, 4, 0)]
theorem ve_X7_isNearest_0 : zget kd_X7_isNearest 0 = vb_X7_isNearest_0.map vq ++ vrest kd_X7_isNearest (some 17) := rfl
def vb_X7_isNearest_17 : List VE := [(17, 1, 19, 4, 0), (19, 0, 20, 0, 0), (20, 49, 23, 7, 0), (23, 49, 26, 1, 2), (26, 46, 29, 47, 0), (29, 0, 30, 3, 0), (30, 1, 32, 4, 0), (32, 51, 33, 0, 0), (33, 0, 34, 3, 0), (34, 1, 35, 2, 0), (35, 51, 36, 0, 0), (36, 46, 39, 41, 0), (39, 7, 40, 0, 0), (40, 62, 41, 2, 0)]
theorem ve_X7_isNearest_17 : zget kd_X7_isNearest 17 = vb_X7_isNearest_17.map vq ++ vrest kd_X7_isNearest (some 41) := rfl
def vb_X7_isNearest_41 : List VE := [(41, 6, 44, 4, 1), (44, 36, 47, 17, 0)]
theorem ve_X7_isNearest_41 : zget kd_X7_isNearest 41 = vb_X7_isNearest_41.map vq ++ vrest kd_X7_isNearest (some 47) := rfl
def vb_X7_isNearest_47 : List VE := [(47, 7, 48, 1, 0), (48, 62, 49, 2, 0)]
theorem ve_X7_isNearest_47 : zget kd_X7_isNearest 47 = vb_X7_isNearest_47.map vq ++ vrest kd_X7_isNearest (none) := rfl
def vb_X7_weigh_0 : List VE := [(0, 0, 1, 0, 0), (1, 49, 4, 7, 0), (4, 49, 7, 1, 1), (7, 1, 8, 1, 0), (8, 53, 9, 0, 0), (9, 4, 10, 2, 0), (10, 0, 11, 2, 0), (11, 61, 14, 3, 17), (14, 3, 15, 3, 0), (15, 7, 16, 0, 0), (16, 3, 18, 4, 0)]
theorem ve_X7_weigh_0 : zget kd_X7_weigh 0 = vb_X7_weigh_0.map vq ++ vrest kd_X7_weigh (some 18) := rfl
def vb_X7_weigh_18 : List VE := [(18, 1, 20, 4, 0), (20, 7, 21, 1, 0), (21, 0, 22, 0, 0), (22, 49, 25, 7, 3), (25, 22, 26, 0, 0), (26, 46, 29, 119, 0), (29, 1, 31, 4, 0), (31, 0, 32, 0, 0), (32, 49, 35, 7, 4), (35, 1, 36, 1, 0), (36, 51, 37, 0, 0), (37, 19, 38, 0, 0), (38, 1, 40, 4, 0), (40, 44, 43, 113, 0), (43, 0, 44, 0, 0), (44, 49, 47, 7, 1), (47, 49, 50, 9, 5), (50, 1, 51, 1, 0), (51, 51, 52, 0, 0), (52, 0, 53, 0, 0), (53, 1, 55, 4, 0), (55, 7, 56, 0, 0), (56, 61, 59, 66, 131), (59, 14, 60, 0, 0), (60, 3, 62, 5, 0), (62, 0, 63, 0, 0), (63, 49, 66, 7, 1), (66, 49, 69, 9, 6), (69, 1, 70, 1, 0), (70, 51, 71, 0, 0), (71, 0, 72, 0, 0), (72, 1, 74, 4, 0), (74, 7, 75, 1, 0), (75, 61, 78, 66, 131), (78, 14, 79, 0, 0), (79, 3, 81, 6, 0), (81, 0, 82, 0, 0), (82, 49, 85, 7, 5), (85, 1, 86, 1, 0), (86, 53, 87, 0, 0), (87, 1, 89, 4, 0), (89, 1, 90, 3, 0), (90, 0, 91, 0, 0), (91, 49, 94, 7, 0), (94, 49, 97, 1, 5), (97, 1, 99, 5, 0), (99, 1, 101, 6, 0), (101, 0, 102, 2, 0), (102, 49, 105, 0, 1), (105, 61, 108, 51, 84), (108, 15, 109, 0, 0), (109, 66, 112, 0, 0), (112, 52, 113, 0, 0)]
theorem ve_X7_weigh_18 : zget kd_X7_weigh 18 = vb_X7_weigh_18.map vq ++ vrest kd_X7_weigh (some 113) := rfl
def vb_X7_weigh_113 : List VE := [(113, 6, 116, 4, 1), (116, 36, 119, 18, 0)]
theorem ve_X7_weigh_113 : zget kd_X7_weigh 113 = vb_X7_weigh_113.map vq ++ vrest kd_X7_weigh (some 119) := rfl
def vb_X7_weigh_119 : List VE := [(119, 65, 120, 0, 0)]
theorem ve_X7_weigh_119 : zget kd_X7_weigh 119 = vb_X7_weigh_119.map vq ++ vrest kd_X7_weigh (none) := rfl
def vb_X7_balesOf_0 : List VE := [(0, 7, 1, 0, 0), (1, 3, 2, 3, 0), (2, 7, 3, 0, 0), (3, 3, 5, 4, 0)]
theorem ve_X7_balesOf_0 : zget kd_X7_balesOf 0 = vb_X7_balesOf_0.map vq ++ vrest kd_X7_balesOf (some 5) := rfl
def vb_X7_balesOf_5 : List VE := [(5, 1, 7, 4, 0), (7, 0, 8, 0, 0), (8, 49, 11, 7, 3), (11, 46, 14, 64, 0), (14, 0, 15, 0, 0), (15, 49, 18, 7, 0), (18, 49, 21, 1, 3), (21, 0, 22, 0, 0), (22, 49, 25, 7, 2), (25, 1, 27, 4, 0), (27, 51, 28, 0, 0), (28, 53, 29, 0, 0), (29, 4, 31, 5, 0), (31, 1, 32, 1, 0), (32, 1, 34, 4, 0), (34, 23, 35, 0, 0), (35, 7, 36, 1, 0), (36, 19, 37, 0, 0), (37, 7, 38, 1, 0), (38, 44, 41, 58, 0), (41, 0, 43, 5, 0), (43, 49, 46, 5, 0), (46, 1, 47, 2, 0), (47, 44, 50, 58, 0), (50, 1, 51, 3, 0), (51, 0, 53, 5, 0), (53, 49, 56, 5, 2), (56, 14, 57, 0, 0), (57, 3, 58, 3, 0)]
theorem ve_X7_balesOf_5 : zget kd_X7_balesOf 5 = vb_X7_balesOf_5.map vq ++ vrest kd_X7_balesOf (some 58) := rfl
def vb_X7_balesOf_58 : List VE := [(58, 6, 61, 4, 1), (61, 36, 64, 5, 0)]
theorem ve_X7_balesOf_58 : zget kd_X7_balesOf 58 = vb_X7_balesOf_58.map vq ++ vrest kd_X7_balesOf (some 64) := rfl
def vb_X7_balesOf_64 : List VE := [(64, 1, 65, 3, 0), (65, 62, 66, 0, 0)]
theorem ve_X7_balesOf_64 : zget kd_X7_balesOf 64 = vb_X7_balesOf_64.map vq ++ vrest kd_X7_balesOf (none) := rfl
def vb_X7_leastInAll_0 : List VE := [(0, 7, 1, 1, 0), (1, 0, 2, 0, 0), (2, 49, 5, 7, 3), (5, 22, 6, 0, 0), (6, 7, 7, 1, 0), (7, 15, 8, 0, 0), (8, 3, 9, 1, 0), (9, 7, 10, 0, 0), (10, 3, 11, 2, 0)]
theorem ve_X7_leastInAll_0 : zget kd_X7_leastInAll 0 = vb_X7_leastInAll_0.map vq ++ vrest kd_X7_leastInAll (some 11) := rfl
def vb_X7_leastInAll_11 : List VE := [(11, 1, 12, 2, 0), (12, 1, 13, 1, 0), (13, 47, 16, 38, 0), (16, 0, 17, 0, 0), (17, 49, 20, 7, 6), (20, 1, 21, 2, 0), (21, 1, 22, 2, 0), (22, 38, 25, 29, 0), (25, 7, 26, 0, 0), (26, 36, 29, 31, 0)]
theorem ve_X7_leastInAll_11 : zget kd_X7_leastInAll 11 = vb_X7_leastInAll_11.map vq ++ vrest kd_X7_leastInAll (some 29) := rfl
def vb_X7_leastInAll_29 : List VE := [(29, 10, 31, 536870912, 0)]
theorem ve_X7_leastInAll_29 : zget kd_X7_leastInAll 29 = vb_X7_leastInAll_29.map vq ++ vrest kd_X7_leastInAll (some 31) := rfl
def vb_X7_leastInAll_31 : List VE := [(31, 52, 32, 0, 0), (32, 6, 35, 2, 1), (35, 36, 38, 11, 0)]
theorem ve_X7_leastInAll_31 : zget kd_X7_leastInAll 31 = vb_X7_leastInAll_31.map vq ++ vrest kd_X7_leastInAll (some 38) := rfl
def vb_X7_leastInAll_38 : List VE := [(38, 7, 39, 0, 0), (39, 3, 40, 2, 0)]
theorem ve_X7_leastInAll_38 : zget kd_X7_leastInAll 38 = vb_X7_leastInAll_38.map vq ++ vrest kd_X7_leastInAll (some 40) := rfl
def vb_X7_leastInAll_40 : List VE := [(40, 1, 41, 2, 0), (41, 0, 42, 0, 0), (42, 49, 45, 7, 0), (45, 49, 48, 1, 2), (48, 46, 51, 81, 0), (51, 1, 52, 1, 0), (52, 3, 53, 3, 0)]
theorem ve_X7_leastInAll_40 : zget kd_X7_leastInAll 40 = vb_X7_leastInAll_40.map vq ++ vrest kd_X7_leastInAll (some 53) := rfl
def vb_X7_leastInAll_53 : List VE := [(53, 1, 54, 3, 0), (54, 39, 57, 75, 0), (57, 0, 58, 0, 0), (58, 49, 61, 7, 6), (61, 1, 62, 3, 0), (62, 0, 63, 0, 0), (63, 1, 64, 2, 0), (64, 1, 65, 3, 0), (65, 61, 68, 68, 131), (68, 52, 69, 0, 0), (69, 6, 72, 3, 4294967295), (72, 36, 75, 53, 0)]
theorem ve_X7_leastInAll_53 : zget kd_X7_leastInAll 53 = vb_X7_leastInAll_53.map vq ++ vrest kd_X7_leastInAll (some 75) := rfl
def vb_X7_leastInAll_75 : List VE := [(75, 6, 78, 2, 1), (78, 36, 81, 40, 0)]
theorem ve_X7_leastInAll_75 : zget kd_X7_leastInAll 75 = vb_X7_leastInAll_75.map vq ++ vrest kd_X7_leastInAll (some 81) := rfl
def vb_X7_leastInAll_81 : List VE := [(81, 0, 82, 0, 0), (82, 49, 85, 7, 6), (85, 1, 86, 1, 0), (86, 51, 87, 0, 0), (87, 62, 88, 0, 0)]
theorem ve_X7_leastInAll_81 : zget kd_X7_leastInAll 81 = vb_X7_leastInAll_81.map vq ++ vrest kd_X7_leastInAll (none) := rfl
def vb_X7_leastWith_0 : List VE := [(0, 10, 2, 536870912, 0), (2, 3, 3, 3, 0), (3, 1, 4, 2, 0), (4, 0, 5, 0, 0), (5, 49, 8, 7, 4), (8, 1, 9, 1, 0), (9, 51, 10, 0, 0), (10, 19, 11, 0, 0), (11, 3, 13, 4, 0), (13, 1, 15, 4, 0), (15, 3, 17, 5, 0)]
theorem ve_X7_leastWith_0 : zget kd_X7_leastWith 0 = vb_X7_leastWith_0.map vq ++ vrest kd_X7_leastWith (some 17) := rfl
def vb_X7_leastWith_17 : List VE := [(17, 1, 19, 5, 0), (19, 39, 22, 62, 0), (22, 1, 24, 5, 0), (24, 1, 26, 4, 0), (26, 19, 27, 0, 0), (27, 1, 29, 5, 0), (29, 44, 32, 56, 0), (32, 1, 33, 3, 0), (33, 0, 34, 0, 0), (34, 49, 37, 7, 6), (37, 1, 38, 2, 0), (38, 1, 40, 5, 0), (40, 15, 41, 0, 0), (41, 51, 42, 0, 0), (42, 0, 43, 0, 0), (43, 49, 46, 7, 5), (46, 1, 47, 1, 0), (47, 53, 48, 0, 0), (48, 1, 50, 5, 0), (50, 51, 51, 0, 0), (51, 14, 52, 0, 0), (52, 56, 55, 0, 0), (55, 3, 56, 3, 0)]
theorem ve_X7_leastWith_17 : zget kd_X7_leastWith 17 = vb_X7_leastWith_17.map vq ++ vrest kd_X7_leastWith (some 56) := rfl
def vb_X7_leastWith_56 : List VE := [(56, 6, 59, 5, 4294967295), (59, 36, 62, 17, 0)]
theorem ve_X7_leastWith_56 : zget kd_X7_leastWith 56 = vb_X7_leastWith_56.map vq ++ vrest kd_X7_leastWith (some 62) := rfl
def vb_X7_leastWith_62 : List VE := [(62, 1, 63, 3, 0), (63, 62, 64, 0, 0)]
theorem ve_X7_leastWith_62 : zget kd_X7_leastWith 62 = vb_X7_leastWith_62.map vq ++ vrest kd_X7_leastWith (none) := rfl
def vb_X7_billFor_0 : List VE := [(0, 0, 1, 0, 0), (1, 61, 4, 67, 129), (4, 3, 5, 2, 0), (5, 7, 6, 0, 0), (6, 3, 7, 3, 0)]
theorem ve_X7_billFor_0 : zget kd_X7_billFor 0 = vb_X7_billFor_0.map vq ++ vrest kd_X7_billFor (some 7) := rfl
def vb_X7_billFor_7 : List VE := [(7, 1, 8, 3, 0), (8, 0, 9, 0, 0), (9, 49, 12, 7, 3), (12, 46, 15, 42, 0), (15, 0, 16, 0, 0), (16, 1, 17, 3, 0), (17, 1, 18, 2, 0), (18, 61, 21, 70, 131), (21, 3, 23, 4, 0), (23, 0, 24, 0, 0), (24, 49, 27, 7, 2), (27, 1, 28, 3, 0), (28, 51, 29, 0, 0), (29, 1, 30, 1, 0), (30, 44, 33, 36, 0), (33, 1, 35, 4, 0), (35, 62, 36, 0, 0)]
theorem ve_X7_billFor_7 : zget kd_X7_billFor 7 = vb_X7_billFor_7.map vq ++ vrest kd_X7_billFor (some 36) := rfl
def vb_X7_billFor_36 : List VE := [(36, 6, 39, 3, 1), (39, 36, 42, 7, 0)]
theorem ve_X7_billFor_36 : zget kd_X7_billFor 36 = vb_X7_billFor_36.map vq ++ vrest kd_X7_billFor (some 42) := rfl
def vb_X7_billFor_42 : List VE := [(42, 7, 43, 4294967295, 0), (43, 62, 44, 0, 0)]
theorem ve_X7_billFor_42 : zget kd_X7_billFor 42 = vb_X7_billFor_42.map vq ++ vrest kd_X7_billFor (none) := rfl
def vb_X7_fixFirst_0 : List VE := [(0, 7, 1, 0, 0), (1, 3, 2, 3, 0)]
theorem ve_X7_fixFirst_0 : zget kd_X7_fixFirst 0 = vb_X7_fixFirst_0.map vq ++ vrest kd_X7_fixFirst (some 2) := rfl
def vb_X7_fixFirst_2 : List VE := [(2, 1, 3, 3, 0), (3, 0, 4, 0, 0), (4, 49, 7, 7, 0), (7, 49, 10, 1, 2), (10, 46, 13, 44, 0), (13, 0, 14, 0, 0), (14, 1, 15, 1, 0), (15, 1, 16, 3, 0), (16, 61, 19, 64, 131), (19, 37, 22, 38, 0), (22, 0, 23, 0, 0), (23, 1, 24, 1, 0), (24, 1, 25, 3, 0), (25, 61, 28, 71, 131), (28, 0, 29, 0, 0), (29, 61, 32, 67, 129), (32, 1, 33, 2, 0), (33, 44, 36, 38, 0), (36, 1, 37, 3, 0), (37, 62, 38, 0, 0)]
theorem ve_X7_fixFirst_2 : zget kd_X7_fixFirst 2 = vb_X7_fixFirst_2.map vq ++ vrest kd_X7_fixFirst (some 38) := rfl
def vb_X7_fixFirst_38 : List VE := [(38, 6, 41, 3, 1), (41, 36, 44, 2, 0)]
theorem ve_X7_fixFirst_38 : zget kd_X7_fixFirst 38 = vb_X7_fixFirst_38.map vq ++ vrest kd_X7_fixFirst (some 44) := rfl
def vb_X7_fixFirst_44 : List VE := [(44, 7, 45, 4294967295, 0), (45, 62, 46, 0, 0)]
theorem ve_X7_fixFirst_44 : zget kd_X7_fixFirst 44 = vb_X7_fixFirst_44.map vq ++ vrest kd_X7_fixFirst (none) := rfl
def vb_X7_allowOnly_0 : List VE := [(0, 7, 1, 0, 0), (1, 3, 2, 3, 0)]
theorem ve_X7_allowOnly_0 : zget kd_X7_allowOnly 0 = vb_X7_allowOnly_0.map vq ++ vrest kd_X7_allowOnly (some 2) := rfl
def vb_X7_allowOnly_2 : List VE := [(2, 1, 3, 3, 0), (3, 0, 4, 0, 0), (4, 49, 7, 7, 0), (7, 49, 10, 1, 2), (10, 46, 13, 33, 0), (13, 0, 14, 0, 0), (14, 49, 17, 7, 4), (17, 1, 18, 3, 0), (18, 34, 19, 0, 0), (19, 51, 20, 0, 0), (20, 7, 21, 1, 0), (21, 1, 22, 1, 0), (22, 22, 23, 0, 0), (23, 7, 24, 4294967295, 0), (24, 21, 25, 0, 0), (25, 19, 26, 0, 0), (26, 52, 27, 0, 0), (27, 6, 30, 3, 1), (30, 36, 33, 2, 0)]
theorem ve_X7_allowOnly_2 : zget kd_X7_allowOnly 2 = vb_X7_allowOnly_2.map vq ++ vrest kd_X7_allowOnly (some 33) := rfl
def vb_X7_allowOnly_33 : List VE := [(33, 0, 34, 0, 0), (34, 49, 37, 7, 4), (37, 1, 38, 2, 0), (38, 34, 39, 0, 0), (39, 51, 40, 0, 0), (40, 7, 41, 1, 0), (41, 1, 42, 1, 0), (42, 22, 43, 0, 0), (43, 20, 44, 0, 0), (44, 52, 45, 0, 0), (45, 65, 46, 0, 0)]
theorem ve_X7_allowOnly_33 : zget kd_X7_allowOnly 33 = vb_X7_allowOnly_33.map vq ++ vrest kd_X7_allowOnly (none) := rfl
def vb_X8_codeOf_0 : List VE := [(0, 1, 1, 0, 0), (1, 8, 3, 65, 0), (3, 8, 5, 90, 0), (5, 60, 8, 145, 3), (8, 37, 11, 18, 0), (11, 1, 12, 0, 0), (12, 8, 14, 65, 0), (14, 15, 15, 0, 0), (15, 7, 16, 1, 0), (16, 14, 17, 0, 0), (17, 62, 18, 0, 0)]
theorem ve_X8_codeOf_0 : zget kd_X8_codeOf 0 = vb_X8_codeOf_0.map vq ++ vrest kd_X8_codeOf (some 18) := rfl
def vb_X8_codeOf_18 : List VE := [(18, 1, 19, 0, 0), (19, 8, 21, 48, 0), (21, 8, 23, 57, 0), (23, 60, 26, 145, 3), (26, 37, 29, 39, 0), (29, 1, 30, 0, 0), (30, 8, 32, 48, 0), (32, 15, 33, 0, 0), (33, 8, 35, 27, 0), (35, 14, 36, 0, 0), (36, 36, 39, 40, 0)]
theorem ve_X8_codeOf_18 : zget kd_X8_codeOf 18 = vb_X8_codeOf_18.map vq ++ vrest kd_X8_codeOf (some 39) := rfl
def vb_X8_codeOf_39 : List VE := [(39, 7, 40, 0, 0)]
theorem ve_X8_codeOf_39 : zget kd_X8_codeOf 39 = vb_X8_codeOf_39.map vq ++ vrest kd_X8_codeOf (some 40) := rfl
def vb_X8_codeOf_40 : List VE := [(40, 62, 41, 0, 0)]
theorem ve_X8_codeOf_40 : zget kd_X8_codeOf 40 = vb_X8_codeOf_40.map vq ++ vrest kd_X8_codeOf (none) := rfl
def vb_X8_octetOf_0 : List VE := [(0, 1, 1, 0, 0), (1, 8, 3, 37, 0), (3, 44, 6, 9, 0), (6, 8, 8, 46, 0), (8, 62, 9, 0, 0)]
theorem ve_X8_octetOf_0 : zget kd_X8_octetOf 0 = vb_X8_octetOf_0.map vq ++ vrest kd_X8_octetOf (some 9) := rfl
def vb_X8_octetOf_9 : List VE := [(9, 1, 10, 0, 0), (10, 8, 12, 26, 0), (12, 47, 15, 24, 0), (15, 1, 16, 0, 0), (16, 7, 17, 1, 0), (17, 15, 18, 0, 0), (18, 8, 20, 65, 0), (20, 14, 21, 0, 0), (21, 36, 24, 31, 0)]
theorem ve_X8_octetOf_9 : zget kd_X8_octetOf 9 = vb_X8_octetOf_9.map vq ++ vrest kd_X8_octetOf (some 24) := rfl
def vb_X8_octetOf_24 : List VE := [(24, 1, 25, 0, 0), (25, 8, 27, 27, 0), (27, 15, 28, 0, 0), (28, 8, 30, 48, 0), (30, 14, 31, 0, 0)]
theorem ve_X8_octetOf_24 : zget kd_X8_octetOf 24 = vb_X8_octetOf_24.map vq ++ vrest kd_X8_octetOf (some 31) := rfl
def vb_X8_octetOf_31 : List VE := [(31, 62, 32, 0, 0)]
theorem ve_X8_octetOf_31 : zget kd_X8_octetOf 31 = vb_X8_octetOf_31.map vq ++ vrest kd_X8_octetOf (none) := rfl
def vb_X8_append_0 : List VE := [(0, 2, 1, 0, 0), (1, 60, 4, 76, 1), (4, 3, 5, 3, 0), (5, 2, 6, 0, 0), (6, 1, 7, 2, 0), (7, 27, 8, 0, 0), (8, 1, 9, 3, 0), (9, 8, 11, 6, 0), (11, 16, 12, 0, 0), (12, 30, 13, 0, 0), (13, 29, 14, 0, 0), (14, 13, 17, 281474976710656, 0), (17, 29, 18, 0, 0), (18, 64, 19, 0, 0)]
theorem ve_X8_append_0 : zget kd_X8_append 0 = vb_X8_append_0.map vq ++ vrest kd_X8_append (none) := rfl
def vb_X8_sizeOf_0 : List VE := [(0, 2, 1, 0, 0), (1, 8, 3, 48, 0), (3, 31, 4, 0, 0), (4, 28, 5, 0, 0), (5, 62, 6, 0, 0)]
theorem ve_X8_sizeOf_0 : zget kd_X8_sizeOf 0 = vb_X8_sizeOf_0.map vq ++ vrest kd_X8_sizeOf (none) := rfl
def vb_X8_signAt_0 : List VE := [(0, 2, 1, 0, 0), (1, 1, 2, 2, 0), (2, 8, 4, 6, 0), (4, 16, 5, 0, 0), (5, 31, 6, 0, 0), (6, 28, 7, 0, 0), (7, 8, 9, 63, 0), (9, 19, 10, 0, 0), (10, 62, 11, 0, 0)]
theorem ve_X8_signAt_0 : zget kd_X8_signAt 0 = vb_X8_signAt_0.map vq ++ vrest kd_X8_signAt (none) := rfl
def vb_X8_has_0 : List VE := [(0, 7, 1, 0, 0), (1, 3, 2, 3, 0)]
theorem ve_X8_has_0 : zget kd_X8_has 0 = vb_X8_has_0.map vq ++ vrest kd_X8_has (some 2) := rfl
def vb_X8_has_2 : List VE := [(2, 1, 3, 3, 0), (3, 2, 4, 0, 0), (4, 60, 7, 76, 1), (7, 46, 10, 27, 0), (10, 2, 11, 0, 0), (11, 1, 12, 3, 0), (12, 60, 15, 77, 2), (15, 1, 16, 2, 0), (16, 44, 19, 21, 0), (19, 7, 20, 1, 0), (20, 62, 21, 2, 0)]
theorem ve_X8_has_2 : zget kd_X8_has 2 = vb_X8_has_2.map vq ++ vrest kd_X8_has (some 21) := rfl
def vb_X8_has_21 : List VE := [(21, 6, 24, 3, 1), (24, 36, 27, 2, 0)]
theorem ve_X8_has_21 : zget kd_X8_has 21 = vb_X8_has_21.map vq ++ vrest kd_X8_has (some 27) := rfl
def vb_X8_has_27 : List VE := [(27, 7, 28, 0, 0), (28, 62, 29, 2, 0)]
theorem ve_X8_has_27 : zget kd_X8_has 27 = vb_X8_has_27.map vq ++ vrest kd_X8_has (none) := rfl
def vb_X8_wearAt_0 : List VE := [(0, 2, 1, 0, 0), (1, 8, 3, 37, 0), (3, 2, 4, 0, 0), (4, 1, 5, 2, 0), (5, 60, 8, 77, 2), (8, 15, 9, 0, 0), (9, 27, 10, 0, 0), (10, 1, 11, 2, 0), (11, 8, 13, 6, 0), (13, 16, 14, 0, 0), (14, 30, 15, 0, 0), (15, 29, 16, 0, 0), (16, 64, 17, 0, 0)]
theorem ve_X8_wearAt_0 : zget kd_X8_wearAt 0 = vb_X8_wearAt_0.map vq ++ vrest kd_X8_wearAt (none) := rfl
def vb_X8_octetAt_0 : List VE := [(0, 1, 1, 2, 0), (1, 8, 3, 10, 0), (3, 8, 5, 10, 0), (5, 2, 6, 0, 0), (6, 60, 9, 76, 1), (9, 14, 10, 0, 0), (10, 7, 11, 1, 0), (11, 15, 12, 0, 0), (12, 60, 15, 145, 3), (15, 38, 18, 20, 0), (18, 7, 19, 4294967295, 0), (19, 62, 20, 0, 0)]
theorem ve_X8_octetAt_0 : zget kd_X8_octetAt 0 = vb_X8_octetAt_0.map vq ++ vrest kd_X8_octetAt (some 20) := rfl
def vb_X8_octetAt_20 : List VE := [(20, 2, 21, 0, 0), (21, 1, 22, 2, 0), (22, 8, 24, 10, 0), (24, 15, 25, 0, 0), (25, 60, 28, 77, 2), (28, 60, 31, 74, 1), (31, 62, 32, 0, 0)]
theorem ve_X8_octetAt_20 : zget kd_X8_octetAt 20 = vb_X8_octetAt_20.map vq ++ vrest kd_X8_octetAt (none) := rfl
def vb_X8_areLike_0 : List VE := [(0, 0, 1, 0, 0), (1, 49, 4, 8, 0), (4, 1, 5, 1, 0), (5, 53, 6, 0, 0), (6, 1, 7, 2, 0), (7, 51, 8, 0, 0), (8, 7, 9, 1, 0), (9, 44, 12, 16, 0), (12, 7, 13, 1, 0), (13, 36, 16, 17, 0)]
theorem ve_X8_areLike_0 : zget kd_X8_areLike 0 = vb_X8_areLike_0.map vq ++ vrest kd_X8_areLike (some 16) := rfl
def vb_X8_areLike_16 : List VE := [(16, 7, 17, 0, 0)]
theorem ve_X8_areLike_16 : zget kd_X8_areLike 16 = vb_X8_areLike_16.map vq ++ vrest kd_X8_areLike (some 17) := rfl
def vb_X8_areLike_17 : List VE := [(17, 62, 18, 2, 0)]
theorem ve_X8_areLike_17 : zget kd_X8_areLike 17 = vb_X8_areLike_17.map vq ++ vrest kd_X8_areLike (none) := rfl
def vb_X8_setCost_0 : List VE := [(0, 0, 1, 0, 0), (1, 49, 4, 8, 0), (4, 1, 5, 1, 0), (5, 53, 6, 0, 0), (6, 1, 7, 2, 0), (7, 1, 8, 3, 0), (8, 52, 9, 0, 0), (9, 0, 10, 0, 0), (10, 49, 13, 8, 0), (13, 1, 14, 2, 0), (14, 53, 15, 0, 0), (15, 1, 16, 1, 0), (16, 1, 17, 3, 0), (17, 52, 18, 0, 0), (18, 65, 19, 0, 0)]
theorem ve_X8_setCost_0 : zget kd_X8_setCost 0 = vb_X8_setCost_0.map vq ++ vrest kd_X8_setCost (none) := rfl
def vb_X8_addCouple_0 : List VE := [(0, 0, 1, 0, 0), (1, 49, 4, 8, 3), (4, 8, 6, 8, 0), (6, 46, 9, 46, 0), (9, 0, 10, 0, 0), (10, 49, 13, 8, 1), (13, 0, 14, 0, 0), (14, 49, 17, 8, 3), (17, 1, 18, 1, 0), (18, 52, 19, 0, 0), (19, 0, 20, 0, 0), (20, 49, 23, 8, 2), (23, 0, 24, 0, 0), (24, 49, 27, 8, 3), (27, 1, 28, 2, 0), (28, 52, 29, 0, 0), (29, 0, 30, 0, 0), (30, 33, 31, 0, 0), (31, 49, 34, 8, 3), (34, 7, 35, 1, 0), (35, 14, 36, 0, 0), (36, 50, 39, 8, 3), (39, 0, 40, 0, 0), (40, 1, 41, 1, 0), (41, 1, 42, 2, 0), (42, 7, 43, 1, 0), (43, 61, 46, 82, 148)]
theorem ve_X8_addCouple_0 : zget kd_X8_addCouple 0 = vb_X8_addCouple_0.map vq ++ vrest kd_X8_addCouple (some 46) := rfl
def vb_X8_addCouple_46 : List VE := [(46, 65, 47, 0, 0)]
theorem ve_X8_addCouple_46 : zget kd_X8_addCouple 46 = vb_X8_addCouple_46.map vq ++ vrest kd_X8_addCouple (none) := rfl
def vb_X8_cutCouples_0 : List VE := [(0, 7, 1, 0, 0), (1, 1, 2, 1, 0), (2, 55, 5, 0, 0), (5, 3, 6, 2, 0)]
theorem ve_X8_cutCouples_0 : zget kd_X8_cutCouples 0 = vb_X8_cutCouples_0.map vq ++ vrest kd_X8_cutCouples (some 6) := rfl
def vb_X8_cutCouples_6 : List VE := [(6, 1, 7, 2, 0), (7, 0, 8, 0, 0), (8, 49, 11, 8, 3), (11, 46, 14, 37, 0), (14, 0, 15, 0, 0), (15, 0, 16, 0, 0), (16, 49, 19, 8, 1), (19, 1, 20, 2, 0), (20, 51, 21, 0, 0), (21, 0, 22, 0, 0), (22, 49, 25, 8, 2), (25, 1, 26, 2, 0), (26, 51, 27, 0, 0), (27, 7, 28, 3, 0), (28, 61, 31, 82, 148), (31, 6, 34, 2, 1), (34, 36, 37, 6, 0)]
theorem ve_X8_cutCouples_6 : zget kd_X8_cutCouples 6 = vb_X8_cutCouples_6.map vq ++ vrest kd_X8_cutCouples (some 37) := rfl
def vb_X8_cutCouples_37 : List VE := [(37, 0, 38, 0, 0), (38, 0, 39, 0, 0), (39, 49, 42, 8, 3), (42, 1, 43, 1, 0), (43, 56, 46, 0, 0), (46, 50, 49, 8, 3), (49, 65, 50, 0, 0)]
theorem ve_X8_cutCouples_37 : zget kd_X8_cutCouples 37 = vb_X8_cutCouples_37.map vq ++ vrest kd_X8_cutCouples (none) := rfl
def vb_X8_gap_0 : List VE := [(0, 2, 1, 3, 0), (1, 60, 4, 76, 1), (4, 3, 6, 5, 0), (6, 0, 7, 0, 0), (7, 49, 10, 8, 4), (10, 7, 11, 0, 0), (11, 7, 12, 0, 0), (12, 52, 13, 0, 0), (13, 7, 14, 0, 0), (14, 3, 16, 6, 0)]
theorem ve_X8_gap_0 : zget kd_X8_gap 0 = vb_X8_gap_0.map vq ++ vrest kd_X8_gap (some 16) := rfl
def vb_X8_gap_16 : List VE := [(16, 1, 18, 6, 0), (18, 1, 20, 5, 0), (20, 46, 23, 60, 0), (23, 0, 24, 0, 0), (24, 49, 27, 8, 5), (27, 1, 29, 6, 0), (29, 2, 30, 3, 0), (30, 1, 32, 6, 0), (32, 60, 35, 77, 2), (35, 52, 36, 0, 0), (36, 0, 37, 0, 0), (37, 49, 40, 8, 4), (40, 1, 42, 6, 0), (42, 7, 43, 1, 0), (43, 14, 44, 0, 0), (44, 0, 45, 0, 0), (45, 49, 48, 8, 4), (48, 1, 50, 6, 0), (50, 51, 51, 0, 0), (51, 7, 52, 2, 0), (52, 14, 53, 0, 0), (53, 52, 54, 0, 0), (54, 6, 57, 6, 1), (57, 36, 60, 16, 0)]
theorem ve_X8_gap_16 : zget kd_X8_gap 16 = vb_X8_gap_16.map vq ++ vrest kd_X8_gap (some 60) := rfl
def vb_X8_gap_60 : List VE := [(60, 2, 61, 1, 0), (61, 60, 64, 76, 1), (64, 3, 66, 6, 0), (66, 7, 67, 0, 0), (67, 3, 69, 7, 0)]
theorem ve_X8_gap_60 : zget kd_X8_gap 60 = vb_X8_gap_60.map vq ++ vrest kd_X8_gap (some 69) := rfl
def vb_X8_gap_69 : List VE := [(69, 1, 71, 7, 0), (71, 1, 73, 6, 0), (73, 46, 76, 194, 0), (76, 0, 77, 0, 0), (77, 49, 80, 8, 0), (80, 2, 81, 1, 0), (81, 1, 83, 7, 0), (83, 60, 86, 77, 2), (86, 53, 87, 0, 0), (87, 4, 89, 8, 0), (89, 0, 90, 0, 0), (90, 49, 93, 8, 4), (93, 7, 94, 0, 0), (94, 51, 95, 0, 0), (95, 3, 97, 9, 0), (97, 0, 98, 0, 0), (98, 49, 101, 8, 4), (101, 7, 102, 0, 0), (102, 1, 104, 9, 0), (104, 7, 105, 2, 0), (105, 14, 106, 0, 0), (106, 52, 107, 0, 0), (107, 7, 108, 0, 0), (108, 3, 110, 10, 0)]
theorem ve_X8_gap_69 : zget kd_X8_gap 69 = vb_X8_gap_69.map vq ++ vrest kd_X8_gap (some 110) := rfl
def vb_X8_gap_110 : List VE := [(110, 1, 112, 10, 0), (112, 1, 114, 5, 0), (114, 46, 117, 188, 0), (117, 1, 119, 9, 0), (119, 0, 121, 8, 0), (121, 0, 122, 0, 0), (122, 49, 125, 8, 5), (125, 1, 127, 10, 0), (127, 51, 128, 0, 0), (128, 51, 129, 0, 0), (129, 14, 130, 0, 0), (130, 3, 132, 11, 0), (132, 0, 133, 0, 0), (133, 49, 136, 8, 4), (136, 1, 138, 10, 0), (138, 51, 139, 0, 0), (139, 0, 140, 0, 0), (140, 49, 143, 8, 4), (143, 1, 145, 10, 0), (145, 7, 146, 1, 0), (146, 14, 147, 0, 0), (147, 51, 148, 0, 0), (148, 56, 151, 0, 0), (151, 7, 152, 2, 0), (152, 14, 153, 0, 0), (153, 3, 155, 12, 0), (155, 0, 156, 0, 0), (156, 49, 159, 8, 4), (159, 1, 161, 10, 0), (161, 7, 162, 1, 0), (162, 14, 163, 0, 0), (163, 51, 164, 0, 0), (164, 3, 166, 9, 0), (166, 0, 167, 0, 0), (167, 49, 170, 8, 4), (170, 1, 172, 10, 0), (172, 7, 173, 1, 0), (173, 14, 174, 0, 0), (174, 1, 176, 11, 0), (176, 1, 178, 12, 0), (178, 56, 181, 0, 0), (181, 52, 182, 0, 0), (182, 6, 185, 10, 1), (185, 36, 188, 110, 0)]
theorem ve_X8_gap_110 : zget kd_X8_gap 110 = vb_X8_gap_110.map vq ++ vrest kd_X8_gap (some 188) := rfl
def vb_X8_gap_188 : List VE := [(188, 6, 191, 7, 1), (191, 36, 194, 69, 0)]
theorem ve_X8_gap_188 : zget kd_X8_gap 188 = vb_X8_gap_188.map vq ++ vrest kd_X8_gap (some 194) := rfl
def vb_X8_gap_194 : List VE := [(194, 0, 195, 0, 0), (195, 49, 198, 8, 4), (198, 1, 200, 5, 0), (200, 51, 201, 0, 0), (201, 62, 202, 0, 0)]
theorem ve_X8_gap_194 : zget kd_X8_gap 194 = vb_X8_gap_194.map vq ++ vrest kd_X8_gap (none) := rfl
def vb_X9_refresh_0 : List VE := [(0, 0, 1, 0, 0), (1, 49, 4, 9, 1), (4, 37, 7, 8, 0), (7, 65, 8, 0, 0)]
theorem ve_X9_refresh_0 : zget kd_X9_refresh 0 = vb_X9_refresh_0.map vq ++ vrest kd_X9_refresh (some 8) := rfl
def vb_X9_refresh_8 : List VE := [(8, 0, 9, 0, 0), (9, 7, 10, 1, 0), (10, 50, 13, 9, 129), (13, 0, 14, 0, 0), (14, 7, 15, 0, 0), (15, 50, 18, 9, 4), (18, 7, 19, 0, 0), (19, 3, 20, 1, 0)]
theorem ve_X9_refresh_8 : zget kd_X9_refresh 8 = vb_X9_refresh_8.map vq ++ vrest kd_X9_refresh (some 20) := rfl
def vb_X9_refresh_20 : List VE := [(20, 1, 21, 1, 0), (21, 8, 23, 72, 0), (23, 46, 26, 46, 0), (26, 0, 27, 0, 0), (27, 49, 30, 9, 5), (30, 1, 31, 1, 0), (31, 7, 32, 0, 0), (32, 52, 33, 0, 0), (33, 0, 34, 0, 0), (34, 49, 37, 9, 6), (37, 1, 38, 1, 0), (38, 7, 39, 0, 0), (39, 52, 40, 0, 0), (40, 6, 43, 1, 1), (43, 36, 46, 20, 0)]
theorem ve_X9_refresh_20 : zget kd_X9_refresh 20 = vb_X9_refresh_20.map vq ++ vrest kd_X9_refresh (some 46) := rfl
def vb_X9_refresh_46 : List VE := [(46, 7, 47, 0, 0), (47, 3, 48, 1, 0)]
theorem ve_X9_refresh_46 : zget kd_X9_refresh 46 = vb_X9_refresh_46.map vq ++ vrest kd_X9_refresh (some 48) := rfl
def vb_X9_refresh_48 : List VE := [(48, 1, 49, 1, 0), (49, 0, 50, 0, 0), (50, 49, 53, 9, 0), (53, 49, 56, 1, 4), (56, 46, 59, 70, 0), (59, 0, 60, 0, 0), (60, 1, 61, 1, 0), (61, 61, 64, 88, 162), (64, 6, 67, 1, 1), (67, 36, 70, 48, 0)]
theorem ve_X9_refresh_48 : zget kd_X9_refresh 48 = vb_X9_refresh_48.map vq ++ vrest kd_X9_refresh (some 70) := rfl
def vb_X9_refresh_70 : List VE := [(70, 7, 71, 0, 0), (71, 3, 72, 1, 0)]
theorem ve_X9_refresh_70 : zget kd_X9_refresh 70 = vb_X9_refresh_70.map vq ++ vrest kd_X9_refresh (some 72) := rfl
def vb_X9_refresh_72 : List VE := [(72, 1, 73, 1, 0), (73, 8, 75, 12, 0), (75, 0, 76, 0, 0), (76, 49, 79, 9, 4), (79, 14, 80, 0, 0), (80, 46, 83, 146, 0), (83, 1, 84, 1, 0), (84, 0, 85, 0, 0), (85, 49, 88, 9, 0), (88, 49, 91, 1, 2), (91, 46, 94, 109, 0), (94, 0, 95, 0, 0), (95, 49, 98, 9, 0), (98, 49, 101, 1, 1), (101, 1, 102, 1, 0), (102, 53, 103, 0, 0), (103, 49, 106, 0, 1), (106, 36, 109, 110, 0)]
theorem ve_X9_refresh_72 : zget kd_X9_refresh 72 = vb_X9_refresh_72.map vq ++ vrest kd_X9_refresh (some 109) := rfl
def vb_X9_refresh_109 : List VE := [(109, 7, 110, 0, 0)]
theorem ve_X9_refresh_109 : zget kd_X9_refresh 109 = vb_X9_refresh_109.map vq ++ vrest kd_X9_refresh (some 110) := rfl
def vb_X9_refresh_110 : List VE := [(110, 3, 111, 2, 0), (111, 0, 112, 0, 0), (112, 49, 115, 9, 7), (115, 1, 116, 1, 0), (116, 0, 117, 0, 0), (117, 49, 120, 9, 0), (120, 49, 123, 1, 5), (123, 0, 124, 0, 0), (124, 49, 127, 9, 5), (127, 1, 128, 1, 0), (128, 51, 129, 0, 0), (129, 0, 130, 0, 0), (130, 49, 133, 9, 6), (133, 1, 134, 1, 0), (134, 51, 135, 0, 0), (135, 1, 136, 2, 0), (136, 61, 139, 51, 84), (139, 52, 140, 0, 0), (140, 6, 143, 1, 1), (143, 36, 146, 72, 0)]
theorem ve_X9_refresh_110 : zget kd_X9_refresh 110 = vb_X9_refresh_110.map vq ++ vrest kd_X9_refresh (some 146) := rfl
def vb_X9_refresh_146 : List VE := [(146, 65, 147, 0, 0)]
theorem ve_X9_refresh_146 : zget kd_X9_refresh 146 = vb_X9_refresh_146.map vq ++ vrest kd_X9_refresh (none) := rfl
def vb_X9_count_0 : List VE := [(0, 0, 1, 0, 0), (1, 49, 4, 9, 0), (4, 49, 7, 1, 3), (7, 1, 8, 1, 0), (8, 53, 9, 0, 0), (9, 4, 10, 2, 0), (10, 0, 11, 0, 0), (11, 49, 14, 9, 0), (14, 0, 15, 0, 0), (15, 49, 18, 9, 0), (18, 1, 19, 1, 0), (19, 61, 22, 15, 34), (22, 0, 23, 0, 0), (23, 49, 26, 9, 0), (26, 49, 29, 1, 7), (29, 61, 32, 16, 35), (32, 3, 33, 3, 0), (33, 0, 34, 0, 0), (34, 49, 37, 9, 2), (37, 1, 38, 1, 0), (38, 1, 39, 3, 0), (39, 52, 40, 0, 0), (40, 1, 41, 3, 0), (41, 39, 44, 48, 0), (44, 1, 45, 3, 0), (45, 36, 48, 56, 0)]
theorem ve_X9_count_0 : zget kd_X9_count 0 = vb_X9_count_0.map vq ++ vrest kd_X9_count (some 48) := rfl
def vb_X9_count_48 : List VE := [(48, 8, 50, 12, 0), (50, 0, 51, 0, 0), (51, 1, 52, 1, 0), (52, 61, 55, 89, 162), (55, 14, 56, 0, 0)]
theorem ve_X9_count_48 : zget kd_X9_count 48 = vb_X9_count_48.map vq ++ vrest kd_X9_count (some 56) := rfl
def vb_X9_count_56 : List VE := [(56, 3, 58, 4, 0), (58, 0, 59, 2, 0), (59, 49, 62, 5, 0), (62, 38, 65, 82, 0), (65, 0, 66, 0, 0), (66, 49, 69, 9, 5), (69, 1, 71, 4, 0), (71, 34, 72, 0, 0), (72, 51, 73, 0, 0), (73, 0, 74, 2, 0), (74, 49, 77, 5, 2), (77, 14, 78, 0, 0), (78, 52, 79, 0, 0), (79, 36, 82, 96, 0)]
theorem ve_X9_count_56 : zget kd_X9_count 56 = vb_X9_count_56.map vq ++ vrest kd_X9_count (some 82) := rfl
def vb_X9_count_82 : List VE := [(82, 0, 83, 0, 0), (83, 49, 86, 9, 6), (86, 1, 88, 4, 0), (88, 34, 89, 0, 0), (89, 51, 90, 0, 0), (90, 0, 91, 2, 0), (91, 49, 94, 5, 2), (94, 14, 95, 0, 0), (95, 52, 96, 0, 0)]
theorem ve_X9_count_82 : zget kd_X9_count 82 = vb_X9_count_82.map vq ++ vrest kd_X9_count (some 96) := rfl
def vb_X9_count_96 : List VE := [(96, 65, 97, 0, 0)]
theorem ve_X9_count_96 : zget kd_X9_count 96 = vb_X9_count_96.map vq ++ vrest kd_X9_count (none) := rfl
def vb_X9_heapOf_0 : List VE := [(0, 0, 1, 0, 0), (1, 49, 4, 9, 0), (4, 49, 7, 1, 3), (7, 1, 8, 1, 0), (8, 53, 9, 0, 0), (9, 49, 12, 5, 3), (12, 5, 13, 2, 0), (13, 7, 14, 0, 0), (14, 3, 16, 4, 0)]
theorem ve_X9_heapOf_0 : zget kd_X9_heapOf 0 = vb_X9_heapOf_0.map vq ++ vrest kd_X9_heapOf (some 16) := rfl
def vb_X9_heapOf_16 : List VE := [(16, 1, 18, 4, 0), (18, 0, 19, 0, 0), (19, 49, 22, 9, 4), (22, 46, 25, 57, 0), (25, 0, 26, 0, 0), (26, 49, 29, 9, 0), (29, 49, 32, 1, 3), (32, 0, 33, 0, 0), (33, 49, 36, 9, 3), (36, 1, 38, 4, 0), (38, 51, 39, 0, 0), (39, 53, 40, 0, 0), (40, 49, 43, 5, 3), (43, 2, 44, 2, 0), (44, 32, 45, 0, 0), (45, 38, 48, 51, 0), (48, 1, 50, 4, 0), (50, 62, 51, 0, 0)]
theorem ve_X9_heapOf_16 : zget kd_X9_heapOf 16 = vb_X9_heapOf_16.map vq ++ vrest kd_X9_heapOf (some 51) := rfl
def vb_X9_heapOf_51 : List VE := [(51, 6, 54, 4, 1), (54, 36, 57, 16, 0)]
theorem ve_X9_heapOf_51 : zget kd_X9_heapOf 51 = vb_X9_heapOf_51.map vq ++ vrest kd_X9_heapOf (some 57) := rfl
def vb_X9_heapOf_57 : List VE := [(57, 0, 58, 0, 0), (58, 49, 61, 9, 3), (61, 0, 62, 0, 0), (62, 49, 65, 9, 4), (65, 1, 66, 1, 0), (66, 52, 67, 0, 0), (67, 0, 68, 0, 0), (68, 33, 69, 0, 0), (69, 49, 72, 9, 4), (72, 7, 73, 1, 0), (73, 14, 74, 0, 0), (74, 50, 77, 9, 4), (77, 0, 78, 0, 0), (78, 49, 81, 9, 4), (81, 7, 82, 1, 0), (82, 15, 83, 0, 0), (83, 62, 84, 0, 0)]
theorem ve_X9_heapOf_57 : zget kd_X9_heapOf 57 = vb_X9_heapOf_57.map vq ++ vrest kd_X9_heapOf (none) := rfl
def vb_X9_linesThatAre_0 : List VE := [(0, 7, 1, 0, 0), (1, 3, 2, 2, 0), (2, 7, 3, 0, 0), (3, 3, 4, 3, 0)]
theorem ve_X9_linesThatAre_0 : zget kd_X9_linesThatAre 0 = vb_X9_linesThatAre_0.map vq ++ vrest kd_X9_linesThatAre (some 4) := rfl
def vb_X9_linesThatAre_4 : List VE := [(4, 1, 5, 3, 0), (5, 0, 6, 0, 0), (6, 49, 9, 9, 0), (9, 49, 12, 1, 4), (12, 46, 15, 38, 0), (15, 7, 16, 0, 0), (16, 0, 17, 0, 0), (17, 49, 20, 9, 2), (20, 1, 21, 3, 0), (21, 51, 22, 0, 0), (22, 56, 25, 0, 0), (25, 1, 26, 1, 0), (26, 44, 29, 32, 0), (29, 6, 32, 2, 1)]
theorem ve_X9_linesThatAre_4 : zget kd_X9_linesThatAre 4 = vb_X9_linesThatAre_4.map vq ++ vrest kd_X9_linesThatAre (some 32) := rfl
def vb_X9_linesThatAre_32 : List VE := [(32, 6, 35, 3, 1), (35, 36, 38, 4, 0)]
theorem ve_X9_linesThatAre_32 : zget kd_X9_linesThatAre 32 = vb_X9_linesThatAre_32.map vq ++ vrest kd_X9_linesThatAre (some 38) := rfl
def vb_X9_linesThatAre_38 : List VE := [(38, 1, 39, 2, 0), (39, 62, 40, 0, 0)]
theorem ve_X9_linesThatAre_38 : zget kd_X9_linesThatAre 38 = vb_X9_linesThatAre_38.map vq ++ vrest kd_X9_linesThatAre (none) := rfl
def vb_X9_unreadIn_0 : List VE := [(0, 7, 1, 0, 0), (1, 3, 2, 2, 0), (2, 7, 3, 0, 0), (3, 3, 4, 3, 0)]
theorem ve_X9_unreadIn_0 : zget kd_X9_unreadIn 0 = vb_X9_unreadIn_0.map vq ++ vrest kd_X9_unreadIn (some 4) := rfl
def vb_X9_unreadIn_4 : List VE := [(4, 1, 5, 3, 0), (5, 0, 6, 0, 0), (6, 49, 9, 9, 0), (9, 49, 12, 1, 4), (12, 46, 15, 49, 0), (15, 0, 16, 0, 0), (16, 49, 19, 9, 0), (19, 49, 22, 1, 3), (22, 1, 23, 3, 0), (23, 53, 24, 0, 0), (24, 49, 27, 5, 1), (27, 1, 28, 1, 0), (28, 44, 31, 43, 0), (31, 0, 32, 0, 0), (32, 49, 35, 9, 2), (35, 1, 36, 3, 0), (36, 51, 37, 0, 0), (37, 40, 40, 43, 0), (40, 6, 43, 2, 1)]
theorem ve_X9_unreadIn_4 : zget kd_X9_unreadIn 4 = vb_X9_unreadIn_4.map vq ++ vrest kd_X9_unreadIn (some 43) := rfl
def vb_X9_unreadIn_43 : List VE := [(43, 6, 46, 3, 1), (46, 36, 49, 4, 0)]
theorem ve_X9_unreadIn_43 : zget kd_X9_unreadIn 43 = vb_X9_unreadIn_43.map vq ++ vrest kd_X9_unreadIn (some 49) := rfl
def vb_X9_unreadIn_49 : List VE := [(49, 1, 50, 2, 0), (50, 62, 51, 0, 0)]
theorem ve_X9_unreadIn_49 : zget kd_X9_unreadIn 49 = vb_X9_unreadIn_49.map vq ++ vrest kd_X9_unreadIn (none) := rfl
def vb_X10_add_0 : List VE := [(0, 8, 2, 24, 0), (2, 3, 3, 2, 0)]
theorem ve_X10_add_0 : zget kd_X10_add 0 = vb_X10_add_0.map vq ++ vrest kd_X10_add (some 3) := rfl
def vb_X10_add_3 : List VE := [(3, 1, 4, 2, 0), (4, 39, 7, 49, 0), (7, 0, 8, 0, 0), (8, 49, 11, 10, 1), (11, 9, 14, 600, 0), (14, 46, 17, 43, 0), (17, 0, 18, 0, 0), (18, 49, 21, 10, 0), (21, 0, 22, 0, 0), (22, 49, 25, 10, 1), (25, 1, 26, 1, 0), (26, 1, 27, 2, 0), (27, 24, 28, 0, 0), (28, 9, 31, 255, 0), (31, 19, 32, 0, 0), (32, 52, 33, 0, 0), (33, 0, 34, 0, 0), (34, 33, 35, 0, 0), (35, 49, 38, 10, 1), (38, 7, 39, 1, 0), (39, 14, 40, 0, 0), (40, 50, 43, 10, 1)]
theorem ve_X10_add_3 : zget kd_X10_add 3 = vb_X10_add_3.map vq ++ vrest kd_X10_add (some 43) := rfl
def vb_X10_add_43 : List VE := [(43, 6, 46, 2, 4294967288), (46, 36, 49, 3, 0)]
theorem ve_X10_add_43 : zget kd_X10_add 43 = vb_X10_add_43.map vq ++ vrest kd_X10_add (some 49) := rfl
def vb_X10_add_49 : List VE := [(49, 65, 50, 0, 0)]
theorem ve_X10_add_49 : zget kd_X10_add 49 = vb_X10_add_49.map vq ++ vrest kd_X10_add (none) := rfl
def vb_X10_rewind_0 : List VE := [(0, 0, 1, 0, 0), (1, 7, 2, 0, 0), (2, 50, 5, 10, 2), (5, 0, 6, 0, 0), (6, 7, 7, 4294967295, 0), (7, 50, 10, 10, 3), (10, 65, 11, 0, 0)]
theorem ve_X10_rewind_0 : zget kd_X10_rewind 0 = vb_X10_rewind_0.map vq ++ vrest kd_X10_rewind (none) := rfl
def vb_X10_next_0 : List VE := [(0, 0, 1, 0, 0), (1, 49, 4, 10, 2), (4, 0, 5, 0, 0), (5, 49, 8, 10, 1), (8, 46, 11, 23, 0), (11, 0, 12, 0, 0), (12, 49, 15, 10, 0), (15, 0, 16, 0, 0), (16, 49, 19, 10, 2), (19, 51, 20, 0, 0), (20, 36, 23, 24, 0)]
theorem ve_X10_next_0 : zget kd_X10_next 0 = vb_X10_next_0.map vq ++ vrest kd_X10_next (some 23) := rfl
def vb_X10_next_23 : List VE := [(23, 7, 24, 4294967295, 0)]
theorem ve_X10_next_23 : zget kd_X10_next 23 = vb_X10_next_23.map vq ++ vrest kd_X10_next (some 24) := rfl
def vb_X10_next_24 : List VE := [(24, 62, 25, 0, 0)]
theorem ve_X10_next_24 : zget kd_X10_next 24 = vb_X10_next_24.map vq ++ vrest kd_X10_next (none) := rfl
def vb_X10_fail_0 : List VE := [(0, 0, 1, 0, 0), (1, 1, 2, 1, 0), (2, 50, 5, 10, 3), (5, 7, 6, 0, 0), (6, 62, 7, 2, 0)]
theorem ve_X10_fail_0 : zget kd_X10_fail 0 = vb_X10_fail_0.map vq ++ vrest kd_X10_fail (none) := rfl
def vb_X10_skip_0 : List VE := [(0, 0, 1, 0, 0), (1, 61, 4, 95, 177), (4, 1, 5, 1, 0), (5, 43, 8, 17, 0), (8, 0, 9, 0, 0), (9, 0, 10, 0, 0), (10, 49, 13, 10, 2), (13, 61, 16, 96, 178), (16, 62, 17, 2, 0)]
theorem ve_X10_skip_0 : zget kd_X10_skip 0 = vb_X10_skip_0.map vq ++ vrest kd_X10_skip (some 17) := rfl
def vb_X10_skip_17 : List VE := [(17, 0, 18, 0, 0), (18, 33, 19, 0, 0), (19, 49, 22, 10, 2), (22, 7, 23, 1, 0), (23, 14, 24, 0, 0), (24, 50, 27, 10, 2), (27, 7, 28, 1, 0), (28, 62, 29, 2, 0)]
theorem ve_X10_skip_17 : zget kd_X10_skip 17 = vb_X10_skip_17.map vq ++ vrest kd_X10_skip (none) := rfl
def vb_X10_isDigit_0 : List VE := [(0, 1, 1, 0, 0), (1, 8, 3, 48, 0), (3, 45, 6, 16, 0), (6, 1, 7, 0, 0), (7, 8, 9, 57, 0), (9, 47, 12, 16, 0), (12, 7, 13, 1, 0), (13, 36, 16, 17, 0)]
theorem ve_X10_isDigit_0 : zget kd_X10_isDigit 0 = vb_X10_isDigit_0.map vq ++ vrest kd_X10_isDigit (some 16) := rfl
def vb_X10_isDigit_16 : List VE := [(16, 7, 17, 0, 0)]
theorem ve_X10_isDigit_16 : zget kd_X10_isDigit 16 = vb_X10_isDigit_16.map vq ++ vrest kd_X10_isDigit (some 17) := rfl
def vb_X10_isDigit_17 : List VE := [(17, 62, 18, 2, 0)]
theorem ve_X10_isDigit_17 : zget kd_X10_isDigit 17 = vb_X10_isDigit_17.map vq ++ vrest kd_X10_isDigit (none) := rfl
def vb_X10_digitUpTo_0 : List VE := [(0, 0, 1, 0, 0), (1, 61, 4, 95, 177), (4, 8, 6, 48, 0), (6, 15, 7, 0, 0), (7, 3, 8, 2, 0), (8, 1, 9, 2, 0), (9, 7, 10, 0, 0), (10, 1, 11, 1, 0), (11, 60, 14, 145, 3), (14, 38, 17, 28, 0), (17, 0, 18, 0, 0), (18, 0, 19, 0, 0), (19, 49, 22, 10, 2), (22, 61, 25, 96, 178), (25, 35, 26, 0, 0), (26, 7, 27, 4294967295, 0), (27, 62, 28, 0, 0)]
theorem ve_X10_digitUpTo_0 : zget kd_X10_digitUpTo 0 = vb_X10_digitUpTo_0.map vq ++ vrest kd_X10_digitUpTo (some 28) := rfl
def vb_X10_digitUpTo_28 : List VE := [(28, 0, 29, 0, 0), (29, 33, 30, 0, 0), (30, 49, 33, 10, 2), (33, 7, 34, 1, 0), (34, 14, 35, 0, 0), (35, 50, 38, 10, 2), (38, 1, 39, 2, 0), (39, 62, 40, 0, 0)]
theorem ve_X10_digitUpTo_28 : zget kd_X10_digitUpTo 28 = vb_X10_digitUpTo_28.map vq ++ vrest kd_X10_digitUpTo (none) := rfl
def vb_X10_digits_0 : List VE := [(0, 7, 1, 0, 0), (1, 3, 2, 2, 0), (2, 0, 3, 0, 0), (3, 49, 6, 10, 1), (6, 0, 7, 0, 0), (7, 49, 10, 10, 2), (10, 1, 11, 1, 0), (11, 14, 12, 0, 0), (12, 56, 15, 0, 0), (15, 3, 16, 3, 0)]
theorem ve_X10_digits_0 : zget kd_X10_digits 0 = vb_X10_digits_0.map vq ++ vrest kd_X10_digits (some 16) := rfl
def vb_X10_digits_16 : List VE := [(16, 0, 17, 0, 0), (17, 49, 20, 10, 2), (20, 1, 21, 3, 0), (21, 46, 24, 70, 0), (24, 0, 25, 0, 0), (25, 49, 28, 10, 0), (28, 0, 29, 0, 0), (29, 49, 32, 10, 2), (32, 51, 33, 0, 0), (33, 60, 36, 98, 1), (36, 37, 39, 70, 0), (39, 1, 40, 2, 0), (40, 8, 42, 10, 0), (42, 16, 43, 0, 0), (43, 0, 44, 0, 0), (44, 49, 47, 10, 0), (47, 0, 48, 0, 0), (48, 49, 51, 10, 2), (51, 51, 52, 0, 0), (52, 14, 53, 0, 0), (53, 8, 55, 48, 0), (55, 15, 56, 0, 0), (56, 3, 57, 2, 0), (57, 0, 58, 0, 0), (58, 33, 59, 0, 0), (59, 49, 62, 10, 2), (62, 7, 63, 1, 0), (63, 14, 64, 0, 0), (64, 50, 67, 10, 2), (67, 36, 70, 16, 0)]
theorem ve_X10_digits_16 : zget kd_X10_digits 16 = vb_X10_digits_16.map vq ++ vrest kd_X10_digits (some 70) := rfl
def vb_X10_digits_70 : List VE := [(70, 1, 71, 2, 0), (71, 62, 72, 0, 0)]
theorem ve_X10_digits_70 : zget kd_X10_digits 70 = vb_X10_digits_70.map vq ++ vrest kd_X10_digits (none) := rfl
def vb_X10_amount_0 : List VE := [(0, 0, 1, 0, 0), (1, 61, 4, 95, 177), (4, 60, 7, 98, 1), (7, 37, 10, 19, 0), (10, 0, 11, 0, 0), (11, 61, 14, 95, 177), (14, 8, 16, 48, 0), (16, 44, 19, 30, 0)]
theorem ve_X10_amount_0 : zget kd_X10_amount 0 = vb_X10_amount_0.map vq ++ vrest kd_X10_amount (some 19) := rfl
def vb_X10_amount_19 : List VE := [(19, 0, 20, 0, 0), (20, 0, 21, 0, 0), (21, 49, 24, 10, 2), (24, 61, 27, 96, 178), (27, 35, 28, 0, 0), (28, 7, 29, 0, 0), (29, 62, 30, 0, 0)]
theorem ve_X10_amount_19 : zget kd_X10_amount 19 = vb_X10_amount_19.map vq ++ vrest kd_X10_amount (some 30) := rfl
def vb_X10_amount_30 : List VE := [(30, 0, 31, 0, 0), (31, 1, 32, 1, 0), (32, 61, 35, 100, 178), (35, 62, 36, 0, 0)]
theorem ve_X10_amount_30 : zget kd_X10_amount 30 = vb_X10_amount_30.map vq ++ vrest kd_X10_amount (none) := rfl
def vb_X10_sign_0 : List VE := [(0, 0, 1, 0, 0), (1, 61, 4, 95, 177), (4, 60, 7, 73, 1), (7, 3, 8, 1, 0), (8, 1, 9, 1, 0), (9, 38, 12, 23, 0), (12, 0, 13, 0, 0), (13, 0, 14, 0, 0), (14, 49, 17, 10, 2), (17, 61, 20, 96, 178), (20, 35, 21, 0, 0), (21, 7, 22, 0, 0), (22, 62, 23, 0, 0)]
theorem ve_X10_sign_0 : zget kd_X10_sign 0 = vb_X10_sign_0.map vq ++ vrest kd_X10_sign (some 23) := rfl
def vb_X10_sign_23 : List VE := [(23, 0, 24, 0, 0), (24, 33, 25, 0, 0), (25, 49, 28, 10, 2), (28, 7, 29, 1, 0), (29, 14, 30, 0, 0), (30, 50, 33, 10, 2), (33, 1, 34, 1, 0), (34, 62, 35, 0, 0)]
theorem ve_X10_sign_23 : zget kd_X10_sign 23 = vb_X10_sign_23.map vq ++ vrest kd_X10_sign (none) := rfl
def vb_X10_signs_0 : List VE := [(0, 12, 1, 0, 0), (1, 5, 2, 2, 0), (2, 7, 3, 0, 0), (3, 3, 5, 4, 0)]
theorem ve_X10_signs_0 : zget kd_X10_signs 0 = vb_X10_signs_0.map vq ++ vrest kd_X10_signs (some 5) := rfl
def vb_X10_signs_5 : List VE := [(5, 1, 7, 4, 0), (7, 8, 9, 8, 0), (9, 46, 12, 70, 0), (12, 1, 13, 1, 0), (13, 37, 16, 30, 0), (16, 0, 17, 0, 0), (17, 61, 20, 95, 177), (20, 8, 22, 46, 0), (22, 44, 25, 30, 0), (25, 8, 27, 37, 0), (27, 36, 30, 37, 0)]
theorem ve_X10_signs_5 : zget kd_X10_signs 5 = vb_X10_signs_5.map vq ++ vrest kd_X10_signs (some 30) := rfl
def vb_X10_signs_30 : List VE := [(30, 0, 31, 0, 0), (31, 61, 34, 95, 177), (34, 60, 37, 73, 1)]
theorem ve_X10_signs_30 : zget kd_X10_signs 30 = vb_X10_signs_30.map vq ++ vrest kd_X10_signs (some 37) := rfl
def vb_X10_signs_37 : List VE := [(37, 3, 39, 5, 0), (39, 1, 41, 5, 0), (41, 38, 44, 47, 0), (44, 36, 47, 70, 0)]
theorem ve_X10_signs_37 : zget kd_X10_signs 37 = vb_X10_signs_37.map vq ++ vrest kd_X10_signs (some 47) := rfl
def vb_X10_signs_47 : List VE := [(47, 2, 48, 2, 0), (48, 1, 50, 5, 0), (50, 60, 53, 75, 2), (53, 5, 54, 2, 0), (54, 0, 55, 0, 0), (55, 33, 56, 0, 0), (56, 49, 59, 10, 2), (59, 7, 60, 1, 0), (60, 14, 61, 0, 0), (61, 50, 64, 10, 2), (64, 6, 67, 4, 1), (67, 36, 70, 5, 0)]
theorem ve_X10_signs_47 : zget kd_X10_signs 47 = vb_X10_signs_47.map vq ++ vrest kd_X10_signs (some 70) := rfl
def vb_X10_signs_70 : List VE := [(70, 2, 71, 2, 0), (71, 12, 72, 0, 0), (72, 32, 73, 0, 0), (73, 38, 76, 85, 0), (76, 0, 77, 0, 0), (77, 0, 78, 0, 0), (78, 49, 81, 10, 2), (81, 61, 84, 96, 178), (84, 35, 85, 0, 0)]
theorem ve_X10_signs_70 : zget kd_X10_signs 70 = vb_X10_signs_70.map vq ++ vrest kd_X10_signs (some 85) := rfl
def vb_X10_signs_85 : List VE := [(85, 2, 86, 2, 0), (86, 64, 87, 0, 0)]
theorem ve_X10_signs_85 : zget kd_X10_signs 85 = vb_X10_signs_85.map vq ++ vrest kd_X10_signs (none) := rfl
def vb_X11_feed_0 : List VE := [(0, 0, 1, 0, 0), (1, 49, 4, 11, 1), (4, 49, 7, 10, 1), (7, 8, 9, 20, 0), (9, 14, 10, 0, 0), (10, 9, 13, 600, 0), (13, 48, 16, 18, 0), (16, 7, 17, 4294967295, 0), (17, 62, 18, 0, 0)]
theorem ve_X11_feed_0 : zget kd_X11_feed 0 = vb_X11_feed_0.map vq ++ vrest kd_X11_feed (some 18) := rfl
def vb_X11_feed_18 : List VE := [(18, 0, 19, 0, 0), (19, 49, 22, 11, 1), (22, 1, 23, 1, 0), (23, 61, 26, 93, 178), (26, 0, 27, 0, 0), (27, 49, 30, 11, 1), (30, 1, 31, 2, 0), (31, 61, 34, 93, 178), (34, 0, 35, 0, 0), (35, 49, 38, 11, 1), (38, 1, 39, 3, 0), (39, 61, 42, 93, 178), (42, 0, 43, 0, 0), (43, 49, 46, 11, 1), (46, 1, 48, 4, 0), (48, 61, 51, 93, 178), (51, 0, 52, 0, 0), (52, 49, 55, 11, 1), (55, 1, 57, 5, 0), (57, 61, 60, 93, 178), (60, 0, 61, 0, 0), (61, 49, 64, 11, 1), (64, 49, 67, 10, 1), (67, 62, 68, 0, 0)]
theorem ve_X11_feed_18 : zget kd_X11_feed 18 = vb_X11_feed_18.map vq ++ vrest kd_X11_feed (none) := rfl
def vb_X11_end_0 : List VE := [(0, 1, 1, 1, 0), (1, 7, 2, 0, 0), (2, 0, 3, 0, 0), (3, 49, 6, 11, 1), (6, 49, 9, 10, 1), (9, 60, 12, 145, 3), (12, 38, 15, 17, 0), (15, 7, 16, 4294967295, 0), (16, 62, 17, 0, 0)]
theorem ve_X11_end_0 : zget kd_X11_end 0 = vb_X11_end_0.map vq ++ vrest kd_X11_end (some 17) := rfl
def vb_X11_end_17 : List VE := [(17, 0, 18, 0, 0), (18, 49, 21, 11, 1), (21, 1, 22, 1, 0), (22, 50, 25, 10, 1), (25, 1, 26, 1, 0), (26, 62, 27, 0, 0)]
theorem ve_X11_end_17 : zget kd_X11_end 17 = vb_X11_end_17.map vq ++ vrest kd_X11_end (none) := rfl
def vb_X11_text_0 : List VE := [(0, 0, 1, 0, 0), (1, 49, 4, 11, 0), (4, 49, 7, 1, 2), (7, 3, 8, 1, 0), (8, 0, 9, 0, 0), (9, 49, 12, 11, 0), (12, 49, 15, 1, 4), (15, 3, 16, 2, 0), (16, 0, 17, 0, 0), (17, 49, 20, 11, 0), (20, 49, 23, 1, 0), (23, 49, 26, 8, 3), (26, 3, 27, 3, 0), (27, 0, 28, 0, 0), (28, 49, 31, 11, 0), (31, 0, 32, 0, 0), (32, 49, 35, 11, 1), (35, 61, 38, 6, 34), (38, 3, 40, 4, 0), (40, 0, 41, 0, 0), (41, 49, 44, 11, 1), (44, 7, 45, 0, 0), (45, 50, 48, 10, 1), (48, 1, 50, 4, 0), (50, 7, 51, 4294967295, 0), (51, 44, 54, 66, 0), (54, 0, 55, 0, 0), (55, 49, 58, 11, 0), (58, 1, 59, 1, 0), (59, 1, 60, 2, 0), (60, 1, 61, 3, 0), (61, 61, 64, 11, 36), (64, 7, 65, 4294967295, 0), (65, 62, 66, 0, 0)]
theorem ve_X11_text_0 : zget kd_X11_text 0 = vb_X11_text_0.map vq ++ vrest kd_X11_text (some 66) := rfl
def vb_X11_text_66 : List VE := [(66, 0, 67, 0, 0), (67, 7, 68, 0, 0), (68, 1, 69, 1, 0), (69, 1, 70, 2, 0), (70, 1, 71, 3, 0), (71, 61, 74, 154, 197), (74, 35, 75, 0, 0), (75, 1, 77, 4, 0), (77, 62, 78, 0, 0)]
theorem ve_X11_text_66 : zget kd_X11_text 66 = vb_X11_text_66.map vq ++ vrest kd_X11_text (none) := rfl
def vb_X11_law_0 : List VE := [(0, 0, 1, 0, 0), (1, 49, 4, 11, 0), (4, 49, 7, 1, 6), (7, 4, 8, 1, 0), (8, 0, 9, 1, 0), (9, 0, 10, 0, 0), (10, 49, 13, 11, 1), (13, 61, 16, 44, 82), (16, 3, 17, 2, 0), (17, 0, 18, 0, 0), (18, 49, 21, 11, 1), (21, 7, 22, 0, 0), (22, 50, 25, 10, 1), (25, 1, 26, 2, 0), (26, 7, 27, 4294967295, 0), (27, 44, 30, 32, 0), (30, 7, 31, 4294967295, 0), (31, 62, 32, 0, 0)]
theorem ve_X11_law_0 : zget kd_X11_law 0 = vb_X11_law_0.map vq ++ vrest kd_X11_law (some 32) := rfl
def vb_X11_law_32 : List VE := [(32, 0, 33, 0, 0), (33, 7, 34, 1, 0), (34, 7, 35, 0, 0), (35, 7, 36, 0, 0), (36, 7, 37, 0, 0), (37, 61, 40, 154, 197), (40, 4, 41, 3, 0), (41, 0, 42, 0, 0), (42, 49, 45, 11, 0), (45, 0, 46, 3, 0), (46, 49, 49, 2, 4), (49, 50, 52, 1, 198), (52, 0, 53, 3, 0), (53, 0, 54, 0, 0), (54, 49, 57, 11, 0), (57, 49, 60, 1, 5), (60, 50, 63, 2, 196), (63, 0, 64, 0, 0), (64, 49, 67, 11, 0), (67, 0, 68, 1, 0), (68, 50, 71, 1, 197), (71, 1, 72, 2, 0), (72, 62, 73, 0, 0)]
theorem ve_X11_law_32 : zget kd_X11_law 32 = vb_X11_law_32.map vq ++ vrest kd_X11_law (none) := rfl
def vb_X11_fault_0 : List VE := [(0, 0, 1, 0, 0), (1, 49, 4, 11, 1), (4, 49, 7, 10, 3), (7, 62, 8, 0, 0)]
theorem ve_X11_fault_0 : zget kd_X11_fault 0 = vb_X11_fault_0.map vq ++ vrest kd_X11_fault (none) := rfl
def vb_X11_is_0 : List VE := [(0, 0, 1, 0, 0), (1, 49, 4, 11, 2), (4, 61, 7, 87, 161), (7, 1, 8, 1, 0), (8, 103, 80, 0, 0)]
theorem ve_X11_is_0 : zget kd_X11_is 0 = vb_X11_is_0.map vq ++ vrest kd_X11_is (some 80) := rfl
def vb_X11_is_80 : List VE := [(80, 0, 81, 0, 0), (81, 49, 84, 11, 0), (84, 49, 87, 1, 2), (87, 62, 88, 0, 0)]
theorem ve_X11_is_80 : zget kd_X11_is 80 = vb_X11_is_80.map vq ++ vrest kd_X11_is (some 88) := rfl
def vb_X11_is_88 : List VE := [(88, 0, 89, 0, 0), (89, 49, 92, 11, 0), (92, 49, 95, 1, 4), (95, 62, 96, 0, 0)]
theorem ve_X11_is_88 : zget kd_X11_is 88 = vb_X11_is_88.map vq ++ vrest kd_X11_is (some 96) := rfl
def vb_X11_is_96 : List VE := [(96, 0, 97, 0, 0), (97, 49, 100, 11, 0), (100, 49, 103, 1, 0), (103, 49, 106, 8, 3), (106, 62, 107, 0, 0)]
theorem ve_X11_is_96 : zget kd_X11_is 96 = vb_X11_is_96.map vq ++ vrest kd_X11_is (some 107) := rfl
def vb_X11_is_107 : List VE := [(107, 0, 108, 0, 0), (108, 49, 111, 11, 2), (111, 49, 114, 9, 4), (114, 62, 115, 0, 0)]
theorem ve_X11_is_107 : zget kd_X11_is 107 = vb_X11_is_107.map vq ++ vrest kd_X11_is (some 115) := rfl
def vb_X11_is_115 : List VE := [(115, 0, 116, 0, 0), (116, 49, 119, 11, 0), (119, 49, 122, 1, 7), (122, 62, 123, 0, 0)]
theorem ve_X11_is_115 : zget kd_X11_is 115 = vb_X11_is_115.map vq ++ vrest kd_X11_is (some 123) := rfl
def vb_X11_is_123 : List VE := [(123, 0, 124, 0, 0), (124, 49, 127, 11, 0), (127, 49, 130, 1, 8), (130, 62, 131, 0, 0)]
theorem ve_X11_is_123 : zget kd_X11_is 123 = vb_X11_is_123.map vq ++ vrest kd_X11_is (some 131) := rfl
def vb_X11_is_131 : List VE := [(131, 0, 132, 0, 0), (132, 49, 135, 11, 0), (135, 49, 138, 1, 9), (138, 62, 139, 0, 0)]
theorem ve_X11_is_131 : zget kd_X11_is 131 = vb_X11_is_131.map vq ++ vrest kd_X11_is (some 139) := rfl
def vb_X11_is_139 : List VE := [(139, 0, 140, 0, 0), (140, 49, 143, 11, 7), (143, 62, 144, 0, 0)]
theorem ve_X11_is_139 : zget kd_X11_is 139 = vb_X11_is_139.map vq ++ vrest kd_X11_is (some 144) := rfl
def vb_X11_is_144 : List VE := [(144, 0, 145, 0, 0), (145, 49, 148, 11, 1), (148, 49, 151, 10, 1), (151, 62, 152, 0, 0)]
theorem ve_X11_is_144 : zget kd_X11_is 144 = vb_X11_is_144.map vq ++ vrest kd_X11_is (some 152) := rfl
def vb_X11_is_152 : List VE := [(152, 0, 153, 0, 0), (153, 49, 156, 11, 2), (156, 7, 157, 0, 0), (157, 61, 160, 90, 162), (160, 62, 161, 0, 0)]
theorem ve_X11_is_152 : zget kd_X11_is 152 = vb_X11_is_152.map vq ++ vrest kd_X11_is (some 161) := rfl
def vb_X11_is_161 : List VE := [(161, 0, 162, 0, 0), (162, 49, 165, 11, 2), (165, 8, 167, 4294967294, 0), (167, 61, 170, 90, 162), (170, 62, 171, 0, 0)]
theorem ve_X11_is_161 : zget kd_X11_is 161 = vb_X11_is_161.map vq ++ vrest kd_X11_is (some 171) := rfl
def vb_X11_is_171 : List VE := [(171, 0, 172, 0, 0), (172, 49, 175, 11, 2), (175, 8, 177, 4294967293, 0), (177, 61, 180, 90, 162), (180, 62, 181, 0, 0)]
theorem ve_X11_is_171 : zget kd_X11_is 171 = vb_X11_is_171.map vq ++ vrest kd_X11_is (some 181) := rfl
def vb_X11_is_181 : List VE := [(181, 0, 182, 0, 0), (182, 49, 185, 11, 0), (185, 49, 188, 1, 10), (188, 62, 189, 0, 0)]
theorem ve_X11_is_181 : zget kd_X11_is 181 = vb_X11_is_181.map vq ++ vrest kd_X11_is (some 189) := rfl
def vb_X11_is_189 : List VE := [(189, 0, 190, 0, 0), (190, 49, 193, 11, 0), (193, 49, 196, 1, 13), (196, 62, 197, 0, 0)]
theorem ve_X11_is_189 : zget kd_X11_is 189 = vb_X11_is_189.map vq ++ vrest kd_X11_is (some 197) := rfl
def vb_X11_is_197 : List VE := [(197, 7, 198, 4294967295, 0), (198, 62, 199, 0, 0)]
theorem ve_X11_is_197 : zget kd_X11_is 197 = vb_X11_is_197.map vq ++ vrest kd_X11_is (none) := rfl
def vb_X11_bill_0 : List VE := [(0, 0, 1, 0, 0), (1, 1, 2, 1, 0), (2, 61, 5, 146, 194), (5, 38, 8, 10, 0), (8, 7, 9, 4294967295, 0), (9, 62, 10, 0, 0)]
theorem ve_X11_bill_0 : zget kd_X11_bill 0 = vb_X11_bill_0.map vq ++ vrest kd_X11_bill (some 10) := rfl
def vb_X11_bill_10 : List VE := [(10, 0, 11, 0, 0), (11, 49, 14, 11, 0), (14, 49, 17, 1, 1), (17, 1, 18, 1, 0), (18, 53, 19, 0, 0), (19, 4, 20, 3, 0), (20, 1, 21, 2, 0), (21, 104, 56, 0, 0)]
theorem ve_X11_bill_10 : zget kd_X11_bill 10 = vb_X11_bill_10.map vq ++ vrest kd_X11_bill (some 56) := rfl
def vb_X11_bill_56 : List VE := [(56, 0, 57, 3, 0), (57, 49, 60, 0, 1), (60, 62, 61, 0, 0)]
theorem ve_X11_bill_56 : zget kd_X11_bill 56 = vb_X11_bill_56.map vq ++ vrest kd_X11_bill (some 61) := rfl
def vb_X11_bill_61 : List VE := [(61, 0, 62, 3, 0), (62, 49, 65, 0, 2), (65, 62, 66, 0, 0)]
theorem ve_X11_bill_61 : zget kd_X11_bill 61 = vb_X11_bill_61.map vq ++ vrest kd_X11_bill (some 66) := rfl
def vb_X11_bill_66 : List VE := [(66, 0, 67, 3, 0), (67, 49, 70, 0, 0), (70, 60, 73, 76, 1), (73, 62, 74, 0, 0)]
theorem ve_X11_bill_66 : zget kd_X11_bill 66 = vb_X11_bill_66.map vq ++ vrest kd_X11_bill (some 74) := rfl
def vb_X11_bill_74 : List VE := [(74, 0, 75, 3, 0), (75, 49, 78, 0, 5), (78, 62, 79, 0, 0)]
theorem ve_X11_bill_74 : zget kd_X11_bill 74 = vb_X11_bill_74.map vq ++ vrest kd_X11_bill (some 79) := rfl
def vb_X11_bill_79 : List VE := [(79, 0, 80, 3, 0), (80, 49, 83, 0, 3), (83, 62, 84, 0, 0)]
theorem ve_X11_bill_79 : zget kd_X11_bill 79 = vb_X11_bill_79.map vq ++ vrest kd_X11_bill (some 84) := rfl
def vb_X11_bill_84 : List VE := [(84, 0, 85, 3, 0), (85, 49, 88, 0, 0), (88, 1, 89, 2, 0), (89, 60, 92, 80, 2), (92, 62, 93, 0, 0)]
theorem ve_X11_bill_84 : zget kd_X11_bill 84 = vb_X11_bill_84.map vq ++ vrest kd_X11_bill (none) := rfl
def vb_X11_line_0 : List VE := [(0, 0, 1, 0, 0), (1, 1, 2, 1, 0), (2, 61, 5, 147, 194), (5, 38, 8, 10, 0), (8, 7, 9, 4294967295, 0), (9, 62, 10, 0, 0)]
theorem ve_X11_line_0 : zget kd_X11_line 0 = vb_X11_line_0.map vq ++ vrest kd_X11_line (some 10) := rfl
def vb_X11_line_10 : List VE := [(10, 0, 11, 0, 0), (11, 49, 14, 11, 0), (14, 49, 17, 1, 3), (17, 1, 18, 1, 0), (18, 53, 19, 0, 0), (19, 4, 20, 3, 0), (20, 1, 21, 2, 0), (21, 105, 52, 0, 0)]
theorem ve_X11_line_10 : zget kd_X11_line 10 = vb_X11_line_10.map vq ++ vrest kd_X11_line (some 52) := rfl
def vb_X11_line_52 : List VE := [(52, 0, 53, 3, 0), (53, 49, 56, 5, 0), (56, 62, 57, 0, 0)]
theorem ve_X11_line_52 : zget kd_X11_line 52 = vb_X11_line_52.map vq ++ vrest kd_X11_line (some 57) := rfl
def vb_X11_line_57 : List VE := [(57, 0, 58, 3, 0), (58, 49, 61, 5, 1), (61, 62, 62, 0, 0)]
theorem ve_X11_line_57 : zget kd_X11_line 57 = vb_X11_line_57.map vq ++ vrest kd_X11_line (some 62) := rfl
def vb_X11_line_62 : List VE := [(62, 0, 63, 3, 0), (63, 49, 66, 5, 2), (66, 62, 67, 0, 0)]
theorem ve_X11_line_62 : zget kd_X11_line 62 = vb_X11_line_62.map vq ++ vrest kd_X11_line (some 67) := rfl
def vb_X11_line_67 : List VE := [(67, 0, 68, 3, 0), (68, 49, 71, 5, 3), (71, 60, 74, 76, 1), (74, 62, 75, 0, 0)]
theorem ve_X11_line_67 : zget kd_X11_line 67 = vb_X11_line_67.map vq ++ vrest kd_X11_line (some 75) := rfl
def vb_X11_line_75 : List VE := [(75, 0, 76, 3, 0), (76, 49, 79, 5, 3), (79, 1, 80, 2, 0), (80, 60, 83, 80, 2), (83, 62, 84, 0, 0)]
theorem ve_X11_line_75 : zget kd_X11_line 75 = vb_X11_line_75.map vq ++ vrest kd_X11_line (none) := rfl
def vb_X11_apart_0 : List VE := [(0, 0, 1, 0, 0), (1, 1, 2, 1, 0), (2, 61, 5, 147, 194), (5, 37, 8, 16, 0), (8, 0, 9, 0, 0), (9, 1, 10, 2, 0), (10, 61, 13, 146, 194), (13, 38, 16, 18, 0)]
theorem ve_X11_apart_0 : zget kd_X11_apart 0 = vb_X11_apart_0.map vq ++ vrest kd_X11_apart (some 16) := rfl
def vb_X11_apart_16 : List VE := [(16, 7, 17, 4294967295, 0), (17, 62, 18, 0, 0)]
theorem ve_X11_apart_16 : zget kd_X11_apart 16 = vb_X11_apart_16.map vq ++ vrest kd_X11_apart (some 18) := rfl
def vb_X11_apart_18 : List VE := [(18, 0, 19, 0, 0), (19, 49, 22, 11, 0), (22, 1, 23, 1, 0), (23, 61, 26, 15, 34), (26, 1, 27, 2, 0), (27, 51, 28, 0, 0), (28, 62, 29, 0, 0)]
theorem ve_X11_apart_18 : zget kd_X11_apart 18 = vb_X11_apart_18.map vq ++ vrest kd_X11_apart (none) := rfl
def vb_X11_read_0 : List VE := [(0, 0, 1, 0, 0), (1, 1, 2, 1, 0), (2, 61, 5, 147, 194), (5, 38, 8, 10, 0), (8, 7, 9, 4294967295, 0), (9, 62, 10, 0, 0)]
theorem ve_X11_read_0 : zget kd_X11_read 0 = vb_X11_read_0.map vq ++ vrest kd_X11_read (some 10) := rfl
def vb_X11_read_10 : List VE := [(10, 0, 11, 0, 0), (11, 49, 14, 11, 2), (14, 61, 17, 87, 161), (17, 0, 18, 0, 0), (18, 49, 21, 11, 2), (21, 49, 24, 9, 2), (24, 1, 25, 1, 0), (25, 51, 26, 0, 0), (26, 62, 27, 0, 0)]
theorem ve_X11_read_10 : zget kd_X11_read 10 = vb_X11_read_10.map vq ++ vrest kd_X11_read (none) := rfl
def vb_X11_least_0 : List VE := [(0, 0, 1, 0, 0), (1, 1, 2, 1, 0), (2, 61, 5, 147, 194), (5, 38, 8, 10, 0), (8, 7, 9, 4294967295, 0), (9, 62, 10, 0, 0)]
theorem ve_X11_least_0 : zget kd_X11_least 0 = vb_X11_least_0.map vq ++ vrest kd_X11_least (some 10) := rfl
def vb_X11_least_10 : List VE := [(10, 0, 11, 0, 0), (11, 49, 14, 11, 0), (14, 1, 15, 1, 0), (15, 61, 18, 15, 34), (18, 4, 19, 2, 0), (19, 0, 20, 0, 0), (20, 49, 23, 11, 0), (23, 0, 24, 2, 0), (24, 8, 26, 20, 0), (26, 61, 29, 16, 35), (29, 3, 30, 3, 0), (30, 1, 31, 3, 0), (31, 39, 34, 40, 0), (34, 0, 35, 2, 0), (35, 1, 36, 3, 0), (36, 51, 37, 0, 0), (37, 36, 40, 41, 0)]
theorem ve_X11_least_10 : zget kd_X11_least 10 = vb_X11_least_10.map vq ++ vrest kd_X11_least (some 40) := rfl
def vb_X11_least_40 : List VE := [(40, 7, 41, 4294967295, 0)]
theorem ve_X11_least_40 : zget kd_X11_least 40 = vb_X11_least_40.map vq ++ vrest kd_X11_least (some 41) := rfl
def vb_X11_least_41 : List VE := [(41, 62, 42, 0, 0)]
theorem ve_X11_least_41 : zget kd_X11_least 41 = vb_X11_least_41.map vq ++ vrest kd_X11_least (none) := rfl
def vb_X11_heap_0 : List VE := [(0, 0, 1, 0, 0), (1, 61, 4, 151, 193), (4, 1, 5, 1, 0), (5, 7, 6, 0, 0), (6, 0, 7, 0, 0), (7, 49, 10, 11, 2), (10, 49, 13, 9, 4), (13, 7, 14, 1, 0), (14, 15, 15, 0, 0), (15, 60, 18, 145, 3), (18, 38, 21, 23, 0), (21, 7, 22, 4294967295, 0), (22, 62, 23, 0, 0)]
theorem ve_X11_heap_0 : zget kd_X11_heap 0 = vb_X11_heap_0.map vq ++ vrest kd_X11_heap (some 23) := rfl
def vb_X11_heap_23 : List VE := [(23, 8, 25, 12, 0), (25, 1, 26, 1, 0), (26, 14, 27, 0, 0), (27, 3, 28, 3, 0), (28, 1, 29, 2, 0), (29, 106, 64, 0, 0)]
theorem ve_X11_heap_23 : zget kd_X11_heap 23 = vb_X11_heap_23.map vq ++ vrest kd_X11_heap (some 64) := rfl
def vb_X11_heap_64 : List VE := [(64, 0, 65, 0, 0), (65, 49, 68, 11, 2), (68, 49, 71, 9, 3), (71, 1, 72, 1, 0), (72, 51, 73, 0, 0), (73, 62, 74, 0, 0)]
theorem ve_X11_heap_64 : zget kd_X11_heap 64 = vb_X11_heap_64.map vq ++ vrest kd_X11_heap (some 74) := rfl
def vb_X11_heap_74 : List VE := [(74, 0, 75, 0, 0), (75, 49, 78, 11, 2), (78, 49, 81, 9, 5), (81, 1, 82, 3, 0), (82, 51, 83, 0, 0), (83, 62, 84, 0, 0)]
theorem ve_X11_heap_74 : zget kd_X11_heap 74 = vb_X11_heap_74.map vq ++ vrest kd_X11_heap (some 84) := rfl
def vb_X11_heap_84 : List VE := [(84, 0, 85, 0, 0), (85, 49, 88, 11, 2), (88, 49, 91, 9, 6), (91, 1, 92, 3, 0), (92, 51, 93, 0, 0), (93, 62, 94, 0, 0)]
theorem ve_X11_heap_84 : zget kd_X11_heap 84 = vb_X11_heap_84.map vq ++ vrest kd_X11_heap (some 94) := rfl
def vb_X11_heap_94 : List VE := [(94, 0, 95, 0, 0), (95, 49, 98, 11, 2), (98, 49, 101, 9, 7), (101, 1, 102, 3, 0), (102, 51, 103, 0, 0), (103, 62, 104, 0, 0)]
theorem ve_X11_heap_94 : zget kd_X11_heap 94 = vb_X11_heap_94.map vq ++ vrest kd_X11_heap (some 104) := rfl
def vb_X11_heap_104 : List VE := [(104, 0, 105, 0, 0), (105, 49, 108, 11, 3), (108, 49, 111, 6, 7), (111, 1, 112, 3, 0), (112, 51, 113, 0, 0), (113, 62, 114, 0, 0)]
theorem ve_X11_heap_104 : zget kd_X11_heap 104 = vb_X11_heap_104.map vq ++ vrest kd_X11_heap (some 114) := rfl
def vb_X11_heap_114 : List VE := [(114, 7, 115, 4294967295, 0), (115, 62, 116, 0, 0)]
theorem ve_X11_heap_114 : zget kd_X11_heap 114 = vb_X11_heap_114.map vq ++ vrest kd_X11_heap (none) := rfl
def vb_X11_tally_0 : List VE := [(0, 0, 1, 0, 0), (1, 1, 2, 1, 0), (2, 61, 5, 146, 194), (5, 38, 8, 10, 0), (8, 7, 9, 4294967295, 0), (9, 62, 10, 0, 0)]
theorem ve_X11_tally_0 : zget kd_X11_tally 0 = vb_X11_tally_0.map vq ++ vrest kd_X11_tally (some 10) := rfl
def vb_X11_tally_10 : List VE := [(10, 0, 11, 0, 0), (11, 61, 14, 151, 193), (14, 1, 15, 2, 0), (15, 107, 64, 0, 0)]
theorem ve_X11_tally_10 : zget kd_X11_tally 10 = vb_X11_tally_10.map vq ++ vrest kd_X11_tally (some 64) := rfl
def vb_X11_tally_64 : List VE := [(64, 0, 65, 0, 0), (65, 49, 68, 11, 2), (68, 49, 71, 9, 5), (71, 1, 72, 1, 0), (72, 51, 73, 0, 0), (73, 62, 74, 0, 0)]
theorem ve_X11_tally_64 : zget kd_X11_tally 64 = vb_X11_tally_64.map vq ++ vrest kd_X11_tally (some 74) := rfl
def vb_X11_tally_74 : List VE := [(74, 0, 75, 0, 0), (75, 49, 78, 11, 2), (78, 49, 81, 9, 6), (81, 1, 82, 1, 0), (82, 51, 83, 0, 0), (83, 62, 84, 0, 0)]
theorem ve_X11_tally_74 : zget kd_X11_tally 74 = vb_X11_tally_74.map vq ++ vrest kd_X11_tally (some 84) := rfl
def vb_X11_tally_84 : List VE := [(84, 0, 85, 0, 0), (85, 49, 88, 11, 2), (88, 49, 91, 9, 7), (91, 1, 92, 1, 0), (92, 51, 93, 0, 0), (93, 62, 94, 0, 0)]
theorem ve_X11_tally_84 : zget kd_X11_tally 84 = vb_X11_tally_84.map vq ++ vrest kd_X11_tally (some 94) := rfl
def vb_X11_tally_94 : List VE := [(94, 0, 95, 0, 0), (95, 49, 98, 11, 0), (98, 49, 101, 1, 1), (101, 1, 102, 1, 0), (102, 53, 103, 0, 0), (103, 61, 106, 3, 17), (106, 62, 107, 0, 0)]
theorem ve_X11_tally_94 : zget kd_X11_tally 94 = vb_X11_tally_94.map vq ++ vrest kd_X11_tally (some 107) := rfl
def vb_X11_tally_107 : List VE := [(107, 0, 108, 0, 0), (108, 49, 111, 11, 3), (111, 49, 114, 6, 4), (114, 1, 115, 1, 0), (115, 51, 116, 0, 0), (116, 62, 117, 0, 0)]
theorem ve_X11_tally_107 : zget kd_X11_tally 107 = vb_X11_tally_107.map vq ++ vrest kd_X11_tally (some 117) := rfl
def vb_X11_tally_117 : List VE := [(117, 0, 118, 0, 0), (118, 49, 121, 11, 3), (121, 49, 124, 6, 3), (124, 1, 125, 1, 0), (125, 51, 126, 0, 0), (126, 62, 127, 0, 0)]
theorem ve_X11_tally_117 : zget kd_X11_tally 117 = vb_X11_tally_117.map vq ++ vrest kd_X11_tally (some 127) := rfl
def vb_X11_tally_127 : List VE := [(127, 0, 128, 0, 0), (128, 49, 131, 11, 3), (131, 49, 134, 6, 8), (134, 1, 135, 1, 0), (135, 51, 136, 0, 0), (136, 62, 137, 0, 0)]
theorem ve_X11_tally_127 : zget kd_X11_tally 127 = vb_X11_tally_127.map vq ++ vrest kd_X11_tally (some 137) := rfl
def vb_X11_tally_137 : List VE := [(137, 0, 138, 0, 0), (138, 49, 141, 11, 3), (141, 49, 144, 6, 7), (144, 1, 145, 1, 0), (145, 51, 146, 0, 0), (146, 62, 147, 0, 0)]
theorem ve_X11_tally_137 : zget kd_X11_tally 137 = vb_X11_tally_137.map vq ++ vrest kd_X11_tally (some 147) := rfl
def vb_X11_tally_147 : List VE := [(147, 0, 148, 0, 0), (148, 49, 151, 11, 3), (151, 1, 152, 1, 0), (152, 61, 155, 61, 114), (155, 62, 156, 0, 0)]
theorem ve_X11_tally_147 : zget kd_X11_tally 147 = vb_X11_tally_147.map vq ++ vrest kd_X11_tally (some 156) := rfl
def vb_X11_tally_156 : List VE := [(156, 7, 157, 4294967295, 0), (157, 62, 158, 0, 0)]
theorem ve_X11_tally_156 : zget kd_X11_tally 156 = vb_X11_tally_156.map vq ++ vrest kd_X11_tally (none) := rfl
def vb_X11_brought_0 : List VE := [(0, 0, 1, 0, 0), (1, 61, 4, 151, 193), (4, 1, 5, 1, 0), (5, 8, 7, 12, 0), (7, 0, 8, 0, 0), (8, 49, 11, 11, 3), (11, 49, 14, 6, 6), (14, 7, 15, 1, 0), (15, 15, 16, 0, 0), (16, 60, 19, 145, 3), (19, 3, 20, 3, 0), (20, 0, 21, 0, 0), (21, 1, 22, 2, 0), (22, 61, 25, 146, 194), (25, 37, 28, 40, 0), (28, 0, 29, 0, 0), (29, 1, 30, 1, 0), (30, 61, 33, 146, 194), (33, 38, 36, 42, 0), (36, 1, 37, 3, 0), (37, 38, 40, 42, 0)]
theorem ve_X11_brought_0 : zget kd_X11_brought 0 = vb_X11_brought_0.map vq ++ vrest kd_X11_brought (some 40) := rfl
def vb_X11_brought_40 : List VE := [(40, 7, 41, 4294967295, 0), (41, 62, 42, 0, 0)]
theorem ve_X11_brought_40 : zget kd_X11_brought 40 = vb_X11_brought_40.map vq ++ vrest kd_X11_brought (some 42) := rfl
def vb_X11_brought_42 : List VE := [(42, 0, 43, 0, 0), (43, 49, 46, 11, 3), (46, 49, 49, 6, 9), (49, 1, 50, 1, 0), (50, 53, 51, 0, 0), (51, 1, 52, 2, 0), (52, 51, 53, 0, 0), (53, 62, 54, 0, 0)]
theorem ve_X11_brought_42 : zget kd_X11_brought 42 = vb_X11_brought_42.map vq ++ vrest kd_X11_brought (none) := rfl
def vb_X11_matched_0 : List VE := [(0, 1, 1, 1, 0), (1, 7, 2, 0, 0), (2, 7, 3, 1, 0), (3, 60, 6, 145, 3), (6, 38, 9, 11, 0), (9, 7, 10, 4294967295, 0), (10, 62, 11, 0, 0)]
theorem ve_X11_matched_0 : zget kd_X11_matched 0 = vb_X11_matched_0.map vq ++ vrest kd_X11_matched (some 11) := rfl
def vb_X11_matched_11 : List VE := [(11, 0, 12, 0, 0), (12, 61, 15, 151, 193), (15, 1, 16, 1, 0), (16, 38, 19, 29, 0), (19, 0, 20, 0, 0), (20, 49, 23, 11, 3), (23, 49, 26, 6, 10), (26, 36, 29, 36, 0)]
theorem ve_X11_matched_11 : zget kd_X11_matched 11 = vb_X11_matched_11.map vq ++ vrest kd_X11_matched (some 29) := rfl
def vb_X11_matched_29 : List VE := [(29, 0, 30, 0, 0), (30, 49, 33, 11, 3), (33, 49, 36, 6, 11)]
theorem ve_X11_matched_29 : zget kd_X11_matched 29 = vb_X11_matched_29.map vq ++ vrest kd_X11_matched (some 36) := rfl
def vb_X11_matched_36 : List VE := [(36, 62, 37, 0, 0)]
theorem ve_X11_matched_36 : zget kd_X11_matched 36 = vb_X11_matched_36.map vq ++ vrest kd_X11_matched (none) := rfl
def vb_X11_best_0 : List VE := [(0, 1, 1, 1, 0), (1, 7, 2, 0, 0), (2, 7, 3, 1, 0), (3, 60, 6, 145, 3), (6, 38, 9, 11, 0), (9, 7, 10, 4294967295, 0), (10, 62, 11, 0, 0)]
theorem ve_X11_best_0 : zget kd_X11_best 0 = vb_X11_best_0.map vq ++ vrest kd_X11_best (some 11) := rfl
def vb_X11_best_11 : List VE := [(11, 0, 12, 0, 0), (12, 61, 15, 151, 193), (15, 0, 16, 0, 0), (16, 49, 19, 11, 4), (19, 61, 22, 34, 65), (22, 1, 23, 1, 0), (23, 38, 26, 36, 0), (26, 0, 27, 0, 0), (27, 49, 30, 11, 4), (30, 49, 33, 3, 9), (33, 36, 36, 43, 0)]
theorem ve_X11_best_11 : zget kd_X11_best 11 = vb_X11_best_11.map vq ++ vrest kd_X11_best (some 36) := rfl
def vb_X11_best_36 : List VE := [(36, 0, 37, 0, 0), (37, 49, 40, 11, 4), (40, 49, 43, 3, 10)]
theorem ve_X11_best_36 : zget kd_X11_best 36 = vb_X11_best_36.map vq ++ vrest kd_X11_best (some 43) := rfl
def vb_X11_best_43 : List VE := [(43, 62, 44, 0, 0)]
theorem ve_X11_best_43 : zget kd_X11_best 43 = vb_X11_best_43.map vq ++ vrest kd_X11_best (none) := rfl
def vb_X11_remark_0 : List VE := [(0, 0, 1, 0, 0), (1, 1, 2, 1, 0), (2, 61, 5, 146, 194), (5, 37, 8, 28, 0), (8, 1, 9, 2, 0), (9, 7, 10, 0, 0), (10, 7, 11, 3, 0), (11, 60, 14, 145, 3), (14, 37, 17, 28, 0), (17, 1, 18, 3, 0), (18, 7, 19, 0, 0), (19, 9, 22, 999, 0), (22, 60, 25, 145, 3), (25, 38, 28, 30, 0)]
theorem ve_X11_remark_0 : zget kd_X11_remark 0 = vb_X11_remark_0.map vq ++ vrest kd_X11_remark (some 28) := rfl
def vb_X11_remark_28 : List VE := [(28, 7, 29, 4294967295, 0), (29, 62, 30, 0, 0)]
theorem ve_X11_remark_28 : zget kd_X11_remark 28 = vb_X11_remark_28.map vq ++ vrest kd_X11_remark (some 30) := rfl
def vb_X11_remark_30 : List VE := [(30, 0, 31, 0, 0), (31, 49, 34, 11, 0), (34, 49, 37, 1, 1), (37, 1, 38, 1, 0), (38, 53, 39, 0, 0), (39, 4, 41, 4, 0), (41, 0, 43, 4, 0), (43, 49, 46, 0, 5), (46, 8, 48, 6, 0), (48, 45, 51, 53, 0), (51, 7, 52, 4294967295, 0), (52, 62, 53, 0, 0)]
theorem ve_X11_remark_30 : zget kd_X11_remark 30 = vb_X11_remark_30.map vq ++ vrest kd_X11_remark (some 53) := rfl
def vb_X11_remark_53 : List VE := [(53, 0, 54, 0, 0), (54, 7, 55, 2, 0), (55, 1, 56, 1, 0), (56, 7, 57, 0, 0), (57, 7, 58, 0, 0), (58, 61, 61, 154, 197), (61, 35, 62, 0, 0), (62, 0, 64, 4, 0), (64, 1, 65, 2, 0), (65, 1, 66, 3, 0), (66, 61, 69, 2, 19), (69, 0, 71, 4, 0), (71, 49, 74, 0, 5), (74, 62, 75, 0, 0)]
theorem ve_X11_remark_53 : zget kd_X11_remark 53 = vb_X11_remark_53.map vq ++ vrest kd_X11_remark (none) := rfl
def vb_X11_remarked_0 : List VE := [(0, 0, 1, 0, 0), (1, 1, 2, 1, 0), (2, 61, 5, 146, 194), (5, 37, 8, 39, 0), (8, 1, 9, 2, 0), (9, 7, 10, 0, 0), (10, 0, 11, 0, 0), (11, 49, 14, 11, 0), (14, 49, 17, 1, 1), (17, 1, 18, 1, 0), (18, 53, 19, 0, 0), (19, 49, 22, 0, 5), (22, 7, 23, 1, 0), (23, 15, 24, 0, 0), (24, 60, 27, 145, 3), (27, 37, 30, 39, 0), (30, 1, 31, 3, 0), (31, 7, 32, 0, 0), (32, 7, 33, 1, 0), (33, 60, 36, 145, 3), (36, 38, 39, 41, 0)]
theorem ve_X11_remarked_0 : zget kd_X11_remarked 0 = vb_X11_remarked_0.map vq ++ vrest kd_X11_remarked (some 39) := rfl
def vb_X11_remarked_39 : List VE := [(39, 7, 40, 4294967295, 0), (40, 62, 41, 0, 0)]
theorem ve_X11_remarked_39 : zget kd_X11_remarked 39 = vb_X11_remarked_39.map vq ++ vrest kd_X11_remarked (some 41) := rfl
def vb_X11_remarked_41 : List VE := [(41, 0, 42, 0, 0), (42, 49, 45, 11, 0), (45, 49, 48, 1, 1), (48, 1, 49, 1, 0), (49, 53, 50, 0, 0), (50, 4, 52, 4, 0), (52, 1, 53, 3, 0), (53, 38, 56, 66, 0), (56, 0, 58, 4, 0), (58, 49, 61, 0, 6), (61, 1, 62, 2, 0), (62, 51, 63, 0, 0), (63, 36, 66, 73, 0)]
theorem ve_X11_remarked_41 : zget kd_X11_remarked 41 = vb_X11_remarked_41.map vq ++ vrest kd_X11_remarked (some 66) := rfl
def vb_X11_remarked_66 : List VE := [(66, 0, 68, 4, 0), (68, 49, 71, 0, 7), (71, 1, 72, 2, 0), (72, 51, 73, 0, 0)]
theorem ve_X11_remarked_66 : zget kd_X11_remarked 66 = vb_X11_remarked_66.map vq ++ vrest kd_X11_remarked (some 73) := rfl
def vb_X11_remarked_73 : List VE := [(73, 62, 74, 0, 0)]
theorem ve_X11_remarked_73 : zget kd_X11_remarked 73 = vb_X11_remarked_73.map vq ++ vrest kd_X11_remarked (none) := rfl
def vb_X11_claim_0 : List VE := [(0, 0, 1, 0, 0), (1, 1, 2, 1, 0), (2, 61, 5, 146, 194), (5, 37, 8, 19, 0), (8, 1, 9, 2, 0), (9, 7, 10, 0, 0), (10, 9, 13, 999, 0), (13, 60, 16, 145, 3), (16, 38, 19, 21, 0)]
theorem ve_X11_claim_0 : zget kd_X11_claim 0 = vb_X11_claim_0.map vq ++ vrest kd_X11_claim (some 19) := rfl
def vb_X11_claim_19 : List VE := [(19, 7, 20, 4294967295, 0), (20, 62, 21, 0, 0)]
theorem ve_X11_claim_19 : zget kd_X11_claim 19 = vb_X11_claim_19.map vq ++ vrest kd_X11_claim (some 21) := rfl
def vb_X11_claim_21 : List VE := [(21, 0, 22, 0, 0), (22, 49, 25, 11, 0), (25, 49, 28, 1, 1), (28, 1, 29, 1, 0), (29, 53, 30, 0, 0), (30, 4, 31, 3, 0), (31, 0, 32, 3, 0), (32, 49, 35, 0, 3), (35, 3, 37, 4, 0), (37, 0, 38, 0, 0), (38, 7, 39, 3, 0), (39, 1, 40, 1, 0), (40, 1, 42, 4, 0), (42, 7, 43, 0, 0), (43, 61, 46, 154, 197), (46, 35, 47, 0, 0), (47, 0, 48, 3, 0), (48, 1, 49, 2, 0), (49, 50, 52, 0, 3), (52, 1, 54, 4, 0), (54, 62, 55, 0, 0)]
theorem ve_X11_claim_21 : zget kd_X11_claim 21 = vb_X11_claim_21.map vq ++ vrest kd_X11_claim (none) := rfl
def vb_X11_limit_0 : List VE := [(0, 1, 1, 1, 0), (1, 7, 2, 0, 0), (2, 8, 4, 20, 0), (4, 60, 7, 145, 3), (7, 38, 10, 12, 0), (10, 7, 11, 4294967295, 0), (11, 62, 12, 0, 0)]
theorem ve_X11_limit_0 : zget kd_X11_limit 0 = vb_X11_limit_0.map vq ++ vrest kd_X11_limit (some 12) := rfl
def vb_X11_limit_12 : List VE := [(12, 0, 13, 0, 0), (13, 49, 16, 11, 0), (16, 49, 19, 1, 7), (19, 3, 20, 2, 0), (20, 0, 21, 0, 0), (21, 7, 22, 4, 0), (22, 1, 23, 2, 0), (23, 7, 24, 0, 0), (24, 7, 25, 0, 0), (25, 61, 28, 154, 197), (28, 35, 29, 0, 0), (29, 0, 30, 0, 0), (30, 49, 33, 11, 0), (33, 1, 34, 1, 0), (34, 50, 37, 1, 7), (37, 1, 38, 2, 0), (38, 62, 39, 0, 0)]
theorem ve_X11_limit_12 : zget kd_X11_limit 12 = vb_X11_limit_12.map vq ++ vrest kd_X11_limit (none) := rfl
def vb_X11_far_0 : List VE := [(0, 1, 1, 1, 0), (1, 7, 2, 0, 0), (2, 8, 4, 24, 0), (4, 60, 7, 145, 3), (7, 38, 10, 12, 0), (10, 7, 11, 4294967295, 0), (11, 62, 12, 0, 0)]
theorem ve_X11_far_0 : zget kd_X11_far 0 = vb_X11_far_0.map vq ++ vrest kd_X11_far (some 12) := rfl
def vb_X11_far_12 : List VE := [(12, 0, 13, 0, 0), (13, 49, 16, 11, 0), (16, 49, 19, 1, 8), (19, 3, 20, 2, 0), (20, 0, 21, 0, 0), (21, 7, 22, 5, 0), (22, 1, 23, 2, 0), (23, 7, 24, 0, 0), (24, 7, 25, 0, 0), (25, 61, 28, 154, 197), (28, 35, 29, 0, 0), (29, 0, 30, 0, 0), (30, 49, 33, 11, 0), (33, 1, 34, 1, 0), (34, 50, 37, 1, 8), (37, 1, 38, 2, 0), (38, 62, 39, 0, 0)]
theorem ve_X11_far_12 : zget kd_X11_far 12 = vb_X11_far_12.map vq ++ vrest kd_X11_far (none) := rfl
def vb_X11_pack_0 : List VE := [(0, 1, 1, 1, 0), (1, 7, 2, 1, 0), (2, 9, 5, 9999, 0), (5, 60, 8, 145, 3), (8, 38, 11, 13, 0), (11, 7, 12, 4294967295, 0), (12, 62, 13, 0, 0)]
theorem ve_X11_pack_0 : zget kd_X11_pack 0 = vb_X11_pack_0.map vq ++ vrest kd_X11_pack (some 13) := rfl
def vb_X11_pack_13 : List VE := [(13, 0, 14, 0, 0), (14, 49, 17, 11, 0), (17, 49, 20, 1, 9), (20, 3, 21, 2, 0), (21, 0, 22, 0, 0), (22, 8, 24, 6, 0), (24, 1, 25, 2, 0), (25, 7, 26, 0, 0), (26, 7, 27, 0, 0), (27, 61, 30, 154, 197), (30, 35, 31, 0, 0), (31, 0, 32, 0, 0), (32, 49, 35, 11, 0), (35, 1, 36, 1, 0), (36, 50, 39, 1, 9), (39, 1, 40, 2, 0), (40, 62, 41, 0, 0)]
theorem ve_X11_pack_13 : zget kd_X11_pack 13 = vb_X11_pack_13.map vq ++ vrest kd_X11_pack (none) := rfl
def vb_X11_paid_0 : List VE := [(0, 1, 1, 1, 0), (1, 7, 2, 4294967295, 0), (2, 43, 5, 16, 0), (5, 0, 6, 0, 0), (6, 1, 7, 1, 0), (7, 61, 10, 146, 194), (10, 38, 13, 16, 0), (13, 8, 15, 4294967294, 0), (15, 62, 16, 0, 0)]
theorem ve_X11_paid_0 : zget kd_X11_paid 0 = vb_X11_paid_0.map vq ++ vrest kd_X11_paid (some 16) := rfl
def vb_X11_paid_16 : List VE := [(16, 0, 17, 0, 0), (17, 61, 20, 151, 193), (20, 1, 21, 1, 0), (21, 7, 22, 4294967295, 0), (22, 43, 25, 31, 0), (25, 0, 26, 0, 0), (26, 1, 27, 1, 0), (27, 61, 30, 152, 194), (30, 62, 31, 0, 0)]
theorem ve_X11_paid_16 : zget kd_X11_paid 16 = vb_X11_paid_16.map vq ++ vrest kd_X11_paid (some 31) := rfl
def vb_X11_paid_31 : List VE := [(31, 7, 32, 0, 0), (32, 3, 33, 2, 0), (33, 7, 34, 0, 0), (34, 3, 35, 3, 0)]
theorem ve_X11_paid_31 : zget kd_X11_paid 31 = vb_X11_paid_31.map vq ++ vrest kd_X11_paid (some 35) := rfl
def vb_X11_paid_35 : List VE := [(35, 1, 36, 3, 0), (36, 0, 37, 0, 0), (37, 49, 40, 11, 0), (40, 49, 43, 1, 2), (43, 46, 46, 60, 0), (46, 1, 47, 2, 0), (47, 0, 48, 0, 0), (48, 1, 49, 3, 0), (49, 61, 52, 152, 194), (52, 14, 53, 0, 0), (53, 3, 54, 2, 0), (54, 6, 57, 3, 1), (57, 36, 60, 35, 0)]
theorem ve_X11_paid_35 : zget kd_X11_paid 35 = vb_X11_paid_35.map vq ++ vrest kd_X11_paid (some 60) := rfl
def vb_X11_paid_60 : List VE := [(60, 1, 61, 2, 0), (61, 62, 62, 0, 0)]
theorem ve_X11_paid_60 : zget kd_X11_paid 60 = vb_X11_paid_60.map vq ++ vrest kd_X11_paid (none) := rfl
def vb_X11_against_0 : List VE := [(0, 1, 1, 1, 0), (1, 60, 4, 148, 1), (4, 37, 7, 16, 0), (7, 1, 8, 2, 0), (8, 7, 9, 0, 0), (9, 7, 10, 1, 0), (10, 60, 13, 145, 3), (13, 38, 16, 18, 0)]
theorem ve_X11_against_0 : zget kd_X11_against 0 = vb_X11_against_0.map vq ++ vrest kd_X11_against (some 16) := rfl
def vb_X11_against_16 : List VE := [(16, 7, 17, 4294967295, 0), (17, 62, 18, 0, 0)]
theorem ve_X11_against_16 : zget kd_X11_against 16 = vb_X11_against_16.map vq ++ vrest kd_X11_against (some 18) := rfl
def vb_X11_against_18 : List VE := [(18, 1, 19, 2, 0), (19, 38, 22, 36, 0), (22, 0, 23, 0, 0), (23, 49, 26, 11, 0), (26, 1, 27, 1, 0), (27, 61, 30, 27, 34), (30, 8, 32, 64, 0), (32, 17, 33, 0, 0), (33, 36, 36, 47, 0)]
theorem ve_X11_against_18 : zget kd_X11_against 18 = vb_X11_against_18.map vq ++ vrest kd_X11_against (some 36) := rfl
def vb_X11_against_36 : List VE := [(36, 0, 37, 0, 0), (37, 49, 40, 11, 0), (40, 1, 41, 1, 0), (41, 61, 44, 27, 34), (44, 8, 46, 64, 0), (46, 18, 47, 0, 0)]
theorem ve_X11_against_36 : zget kd_X11_against 36 = vb_X11_against_36.map vq ++ vrest kd_X11_against (some 47) := rfl
def vb_X11_against_47 : List VE := [(47, 62, 48, 0, 0)]
theorem ve_X11_against_47 : zget kd_X11_against 47 = vb_X11_against_47.map vq ++ vrest kd_X11_against (none) := rfl
def vb_X11_hold_0 : List VE := [(0, 1, 1, 1, 0), (1, 60, 4, 148, 1), (4, 38, 7, 9, 0), (7, 7, 8, 4294967295, 0), (8, 62, 9, 0, 0)]
theorem ve_X11_hold_0 : zget kd_X11_hold 0 = vb_X11_hold_0.map vq ++ vrest kd_X11_hold (some 9) := rfl
def vb_X11_hold_9 : List VE := [(9, 0, 10, 0, 0), (10, 49, 13, 11, 2), (13, 61, 16, 87, 161), (16, 1, 17, 2, 0), (17, 108, 56, 0, 0)]
theorem ve_X11_hold_9 : zget kd_X11_hold 9 = vb_X11_hold_9.map vq ++ vrest kd_X11_hold (some 56) := rfl
def vb_X11_hold_56 : List VE := [(56, 0, 57, 0, 0), (57, 49, 60, 11, 0), (60, 1, 61, 1, 0), (61, 1, 62, 2, 0), (62, 61, 65, 21, 35), (65, 62, 66, 0, 0)]
theorem ve_X11_hold_56 : zget kd_X11_hold 56 = vb_X11_hold_56.map vq ++ vrest kd_X11_hold (some 66) := rfl
def vb_X11_hold_66 : List VE := [(66, 0, 67, 0, 0), (67, 49, 70, 11, 0), (70, 1, 71, 1, 0), (71, 1, 72, 2, 0), (72, 7, 73, 2, 0), (73, 15, 74, 0, 0), (74, 61, 77, 22, 35), (77, 62, 78, 0, 0)]
theorem ve_X11_hold_66 : zget kd_X11_hold 66 = vb_X11_hold_66.map vq ++ vrest kd_X11_hold (some 78) := rfl
def vb_X11_hold_78 : List VE := [(78, 0, 79, 0, 0), (79, 49, 82, 11, 0), (82, 1, 83, 1, 0), (83, 61, 86, 23, 34), (86, 62, 87, 0, 0)]
theorem ve_X11_hold_78 : zget kd_X11_hold 78 = vb_X11_hold_78.map vq ++ vrest kd_X11_hold (some 87) := rfl
def vb_X11_hold_87 : List VE := [(87, 0, 88, 0, 0), (88, 49, 91, 11, 2), (91, 1, 92, 1, 0), (92, 61, 95, 91, 162), (95, 62, 96, 0, 0)]
theorem ve_X11_hold_87 : zget kd_X11_hold 87 = vb_X11_hold_87.map vq ++ vrest kd_X11_hold (some 96) := rfl
def vb_X11_hold_96 : List VE := [(96, 7, 97, 4294967295, 0), (97, 62, 98, 0, 0)]
theorem ve_X11_hold_96 : zget kd_X11_hold 96 = vb_X11_hold_96.map vq ++ vrest kd_X11_hold (none) := rfl
def vb_X11_close_0 : List VE := [(0, 1, 1, 1, 0), (1, 60, 4, 148, 1), (4, 37, 7, 18, 0), (7, 0, 8, 0, 0), (8, 49, 11, 11, 0), (11, 1, 12, 1, 0), (12, 61, 15, 25, 34), (15, 36, 18, 21, 0)]
theorem ve_X11_close_0 : zget kd_X11_close 0 = vb_X11_close_0.map vq ++ vrest kd_X11_close (some 18) := rfl
def vb_X11_close_18 : List VE := [(18, 11, 21, 4293967296, 0)]
theorem ve_X11_close_18 : zget kd_X11_close 18 = vb_X11_close_18.map vq ++ vrest kd_X11_close (some 21) := rfl
def vb_X11_close_21 : List VE := [(21, 62, 22, 0, 0)]
theorem ve_X11_close_21 : zget kd_X11_close 21 = vb_X11_close_21.map vq ++ vrest kd_X11_close (none) := rfl
def vb_X11_blame_0 : List VE := [(0, 1, 1, 1, 0), (1, 60, 4, 148, 1), (4, 37, 7, 16, 0), (7, 1, 8, 2, 0), (8, 7, 9, 0, 0), (9, 7, 10, 1, 0), (10, 60, 13, 145, 3), (13, 38, 16, 19, 0)]
theorem ve_X11_blame_0 : zget kd_X11_blame 0 = vb_X11_blame_0.map vq ++ vrest kd_X11_blame (some 16) := rfl
def vb_X11_blame_16 : List VE := [(16, 8, 18, 4294967294, 0), (18, 62, 19, 0, 0)]
theorem ve_X11_blame_16 : zget kd_X11_blame 16 = vb_X11_blame_16.map vq ++ vrest kd_X11_blame (some 19) := rfl
def vb_X11_blame_19 : List VE := [(19, 0, 20, 0, 0), (20, 49, 23, 11, 0), (23, 1, 24, 1, 0), (24, 61, 27, 25, 34), (27, 3, 28, 3, 0), (28, 7, 29, 4294967295, 0), (29, 3, 31, 4, 0), (31, 7, 32, 0, 0), (32, 3, 34, 5, 0), (34, 7, 35, 0, 0), (35, 3, 37, 6, 0)]
theorem ve_X11_blame_19 : zget kd_X11_blame 19 = vb_X11_blame_19.map vq ++ vrest kd_X11_blame (some 37) := rfl
def vb_X11_blame_37 : List VE := [(37, 1, 39, 6, 0), (39, 0, 40, 0, 0), (40, 49, 43, 11, 0), (43, 49, 46, 1, 4), (46, 46, 49, 110, 0), (49, 1, 50, 3, 0), (50, 37, 53, 110, 0), (53, 0, 54, 0, 0), (54, 49, 57, 11, 0), (57, 49, 60, 1, 3), (60, 1, 62, 6, 0), (62, 53, 63, 0, 0), (63, 49, 66, 5, 1), (66, 1, 67, 1, 0), (67, 44, 70, 104, 0), (70, 0, 71, 0, 0), (71, 49, 74, 11, 0), (74, 49, 77, 1, 3), (77, 1, 79, 6, 0), (79, 53, 80, 0, 0), (80, 1, 81, 3, 0), (81, 61, 84, 55, 98), (84, 37, 87, 104, 0), (87, 1, 89, 5, 0), (89, 38, 92, 97, 0), (92, 1, 94, 6, 0), (94, 36, 97, 99, 0)]
theorem ve_X11_blame_37 : zget kd_X11_blame 37 = vb_X11_blame_37.map vq ++ vrest kd_X11_blame (some 97) := rfl
def vb_X11_blame_97 : List VE := [(97, 1, 99, 4, 0)]
theorem ve_X11_blame_97 : zget kd_X11_blame 97 = vb_X11_blame_97.map vq ++ vrest kd_X11_blame (some 99) := rfl
def vb_X11_blame_99 : List VE := [(99, 3, 101, 4, 0), (101, 6, 104, 5, 1)]
theorem ve_X11_blame_99 : zget kd_X11_blame 99 = vb_X11_blame_99.map vq ++ vrest kd_X11_blame (some 104) := rfl
def vb_X11_blame_104 : List VE := [(104, 6, 107, 6, 1), (107, 36, 110, 37, 0)]
theorem ve_X11_blame_104 : zget kd_X11_blame 104 = vb_X11_blame_104.map vq ++ vrest kd_X11_blame (some 110) := rfl
def vb_X11_blame_110 : List VE := [(110, 1, 111, 2, 0), (111, 38, 114, 119, 0), (114, 1, 116, 5, 0), (116, 36, 119, 121, 0)]
theorem ve_X11_blame_110 : zget kd_X11_blame 110 = vb_X11_blame_110.map vq ++ vrest kd_X11_blame (some 119) := rfl
def vb_X11_blame_119 : List VE := [(119, 1, 121, 4, 0)]
theorem ve_X11_blame_119 : zget kd_X11_blame 119 = vb_X11_blame_119.map vq ++ vrest kd_X11_blame (some 121) := rfl
def vb_X11_blame_121 : List VE := [(121, 62, 122, 0, 0)]
theorem ve_X11_blame_121 : zget kd_X11_blame 121 = vb_X11_blame_121.map vq ++ vrest kd_X11_blame (none) := rfl
def vb_X11_worn_0 : List VE := [(0, 0, 1, 0, 0), (1, 1, 2, 1, 0), (2, 61, 5, 146, 194), (5, 37, 8, 17, 0), (8, 1, 9, 2, 0), (9, 7, 10, 0, 0), (10, 7, 11, 1, 0), (11, 60, 14, 145, 3), (14, 38, 17, 20, 0)]
theorem ve_X11_worn_0 : zget kd_X11_worn 0 = vb_X11_worn_0.map vq ++ vrest kd_X11_worn (some 17) := rfl
def vb_X11_worn_17 : List VE := [(17, 8, 19, 4294967294, 0), (19, 62, 20, 0, 0)]
theorem ve_X11_worn_17 : zget kd_X11_worn 17 = vb_X11_worn_17.map vq ++ vrest kd_X11_worn (some 20) := rfl
def vb_X11_worn_20 : List VE := [(20, 0, 21, 0, 0), (21, 49, 24, 11, 0), (24, 49, 27, 1, 1), (27, 1, 28, 1, 0), (28, 53, 29, 0, 0), (29, 49, 32, 0, 0), (32, 5, 33, 3, 0), (33, 7, 34, 4294967295, 0), (34, 3, 36, 5, 0), (36, 7, 37, 0, 0), (37, 3, 39, 6, 0), (39, 7, 40, 0, 0), (40, 3, 42, 7, 0)]
theorem ve_X11_worn_20 : zget kd_X11_worn 20 = vb_X11_worn_20.map vq ++ vrest kd_X11_worn (some 42) := rfl
def vb_X11_worn_42 : List VE := [(42, 1, 44, 7, 0), (44, 2, 45, 3, 0), (45, 60, 48, 76, 1), (48, 46, 51, 91, 0), (51, 0, 52, 0, 0), (52, 49, 55, 11, 0), (55, 2, 56, 3, 0), (56, 1, 58, 7, 0), (58, 60, 61, 79, 2), (61, 61, 64, 17, 34), (64, 1, 65, 1, 0), (65, 43, 68, 85, 0), (68, 1, 70, 6, 0), (70, 38, 73, 78, 0), (73, 1, 75, 7, 0), (75, 36, 78, 80, 0)]
theorem ve_X11_worn_42 : zget kd_X11_worn 42 = vb_X11_worn_42.map vq ++ vrest kd_X11_worn (some 78) := rfl
def vb_X11_worn_78 : List VE := [(78, 1, 80, 5, 0)]
theorem ve_X11_worn_78 : zget kd_X11_worn 78 = vb_X11_worn_78.map vq ++ vrest kd_X11_worn (some 80) := rfl
def vb_X11_worn_80 : List VE := [(80, 3, 82, 5, 0), (82, 6, 85, 6, 1)]
theorem ve_X11_worn_80 : zget kd_X11_worn 80 = vb_X11_worn_80.map vq ++ vrest kd_X11_worn (some 85) := rfl
def vb_X11_worn_85 : List VE := [(85, 6, 88, 7, 1), (88, 36, 91, 42, 0)]
theorem ve_X11_worn_85 : zget kd_X11_worn 85 = vb_X11_worn_85.map vq ++ vrest kd_X11_worn (some 91) := rfl
def vb_X11_worn_91 : List VE := [(91, 1, 92, 2, 0), (92, 38, 95, 100, 0), (95, 1, 97, 6, 0), (97, 36, 100, 102, 0)]
theorem ve_X11_worn_91 : zget kd_X11_worn 91 = vb_X11_worn_91.map vq ++ vrest kd_X11_worn (some 100) := rfl
def vb_X11_worn_100 : List VE := [(100, 1, 102, 5, 0)]
theorem ve_X11_worn_100 : zget kd_X11_worn 100 = vb_X11_worn_100.map vq ++ vrest kd_X11_worn (some 102) := rfl
def vb_X11_worn_102 : List VE := [(102, 62, 103, 0, 0)]
theorem ve_X11_worn_102 : zget kd_X11_worn 102 = vb_X11_worn_102.map vq ++ vrest kd_X11_worn (none) := rfl
def vb_X11_twin_0 : List VE := [(0, 0, 1, 0, 0), (1, 1, 2, 1, 0), (2, 61, 5, 146, 194), (5, 37, 8, 17, 0), (8, 1, 9, 2, 0), (9, 7, 10, 0, 0), (10, 7, 11, 1, 0), (11, 60, 14, 145, 3), (14, 38, 17, 19, 0)]
theorem ve_X11_twin_0 : zget kd_X11_twin 0 = vb_X11_twin_0.map vq ++ vrest kd_X11_twin (some 17) := rfl
def vb_X11_twin_17 : List VE := [(17, 7, 18, 4294967295, 0), (18, 62, 19, 0, 0)]
theorem ve_X11_twin_17 : zget kd_X11_twin 17 = vb_X11_twin_17.map vq ++ vrest kd_X11_twin (some 19) := rfl
def vb_X11_twin_19 : List VE := [(19, 7, 20, 4294967295, 0), (20, 3, 21, 3, 0), (21, 7, 22, 4294967295, 0), (22, 3, 24, 4, 0), (24, 7, 25, 0, 0), (25, 3, 27, 5, 0)]
theorem ve_X11_twin_19 : zget kd_X11_twin 19 = vb_X11_twin_19.map vq ++ vrest kd_X11_twin (some 27) := rfl
def vb_X11_twin_27 : List VE := [(27, 1, 29, 5, 0), (29, 0, 30, 0, 0), (30, 49, 33, 11, 0), (33, 49, 36, 1, 2), (36, 46, 39, 107, 0), (39, 0, 40, 0, 0), (40, 49, 43, 11, 0), (43, 49, 46, 1, 0), (46, 0, 47, 0, 0), (47, 49, 50, 11, 0), (50, 49, 53, 1, 1), (53, 1, 55, 5, 0), (55, 53, 56, 0, 0), (56, 49, 59, 0, 0), (59, 0, 60, 0, 0), (60, 49, 63, 11, 0), (63, 49, 66, 1, 1), (66, 1, 67, 1, 0), (67, 53, 68, 0, 0), (68, 49, 71, 0, 0), (71, 61, 74, 85, 147), (74, 3, 76, 6, 0), (76, 1, 78, 5, 0), (78, 1, 79, 1, 0), (79, 43, 82, 101, 0), (82, 1, 83, 3, 0), (83, 7, 84, 4294967295, 0), (84, 43, 87, 94, 0), (87, 1, 89, 6, 0), (89, 1, 91, 4, 0), (91, 46, 94, 101, 0)]
theorem ve_X11_twin_27 : zget kd_X11_twin 27 = vb_X11_twin_27.map vq ++ vrest kd_X11_twin (some 94) := rfl
def vb_X11_twin_94 : List VE := [(94, 1, 96, 5, 0), (96, 3, 97, 3, 0), (97, 1, 99, 6, 0), (99, 3, 101, 4, 0)]
theorem ve_X11_twin_94 : zget kd_X11_twin 94 = vb_X11_twin_94.map vq ++ vrest kd_X11_twin (some 101) := rfl
def vb_X11_twin_101 : List VE := [(101, 6, 104, 5, 1), (104, 36, 107, 27, 0)]
theorem ve_X11_twin_101 : zget kd_X11_twin 101 = vb_X11_twin_101.map vq ++ vrest kd_X11_twin (some 107) := rfl
def vb_X11_twin_107 : List VE := [(107, 1, 108, 2, 0), (108, 38, 111, 115, 0), (111, 1, 112, 3, 0), (112, 36, 115, 117, 0)]
theorem ve_X11_twin_107 : zget kd_X11_twin 107 = vb_X11_twin_107.map vq ++ vrest kd_X11_twin (some 115) := rfl
def vb_X11_twin_115 : List VE := [(115, 1, 117, 4, 0)]
theorem ve_X11_twin_115 : zget kd_X11_twin 115 = vb_X11_twin_115.map vq ++ vrest kd_X11_twin (some 117) := rfl
def vb_X11_twin_117 : List VE := [(117, 62, 118, 0, 0)]
theorem ve_X11_twin_117 : zget kd_X11_twin 117 = vb_X11_twin_117.map vq ++ vrest kd_X11_twin (none) := rfl
def vb_X11_shed_0 : List VE := [(0, 0, 1, 0, 0), (1, 1, 2, 1, 0), (2, 61, 5, 146, 194), (5, 38, 8, 10, 0), (8, 7, 9, 4294967295, 0), (9, 62, 10, 0, 0)]
theorem ve_X11_shed_0 : zget kd_X11_shed 0 = vb_X11_shed_0.map vq ++ vrest kd_X11_shed (some 10) := rfl
def vb_X11_shed_10 : List VE := [(10, 0, 11, 0, 0), (11, 61, 14, 151, 193), (14, 0, 15, 0, 0), (15, 1, 16, 1, 0), (16, 61, 19, 153, 194), (19, 62, 20, 0, 0)]
theorem ve_X11_shed_10 : zget kd_X11_shed 10 = vb_X11_shed_10.map vq ++ vrest kd_X11_shed (none) := rfl
def vb_X11_days_0 : List VE := [(0, 1, 1, 1, 0), (1, 7, 2, 1, 0), (2, 8, 4, 99, 0), (4, 60, 7, 145, 3), (7, 38, 10, 12, 0), (10, 7, 11, 4294967295, 0), (11, 62, 12, 0, 0)]
theorem ve_X11_days_0 : zget kd_X11_days 0 = vb_X11_days_0.map vq ++ vrest kd_X11_days (some 12) := rfl
def vb_X11_days_12 : List VE := [(12, 0, 13, 0, 0), (13, 8, 15, 8, 0), (15, 0, 16, 0, 0), (16, 49, 19, 11, 0), (19, 49, 22, 1, 10), (22, 7, 23, 0, 0), (23, 7, 24, 0, 0), (24, 61, 27, 154, 197), (27, 35, 28, 0, 0), (28, 0, 29, 0, 0), (29, 49, 32, 11, 0), (32, 8, 34, 99, 0), (34, 0, 35, 0, 0), (35, 49, 38, 11, 0), (38, 49, 41, 1, 10), (41, 1, 42, 1, 0), (42, 14, 43, 0, 0), (43, 56, 46, 0, 0), (46, 50, 49, 1, 10), (49, 0, 50, 0, 0), (50, 49, 53, 11, 0), (53, 49, 56, 1, 10), (56, 62, 57, 0, 0)]
theorem ve_X11_days_12 : zget kd_X11_days 12 = vb_X11_days_12.map vq ++ vrest kd_X11_days (none) := rfl
def vb_X11_rate_0 : List VE := [(0, 1, 1, 1, 0), (1, 7, 2, 0, 0), (2, 8, 4, 99, 0), (4, 60, 7, 145, 3), (7, 37, 10, 21, 0), (10, 1, 11, 2, 0), (11, 7, 12, 0, 0), (12, 9, 15, 999, 0), (15, 60, 18, 145, 3), (18, 38, 21, 23, 0)]
theorem ve_X11_rate_0 : zget kd_X11_rate 0 = vb_X11_rate_0.map vq ++ vrest kd_X11_rate (some 21) := rfl
def vb_X11_rate_21 : List VE := [(21, 7, 22, 4294967295, 0), (22, 62, 23, 0, 0)]
theorem ve_X11_rate_21 : zget kd_X11_rate 21 = vb_X11_rate_21.map vq ++ vrest kd_X11_rate (some 23) := rfl
def vb_X11_rate_23 : List VE := [(23, 0, 24, 0, 0), (24, 8, 26, 9, 0), (26, 0, 27, 0, 0), (27, 49, 30, 11, 0), (30, 49, 33, 1, 11), (33, 0, 34, 0, 0), (34, 49, 37, 11, 0), (37, 49, 40, 1, 12), (40, 7, 41, 0, 0), (41, 61, 44, 154, 197), (44, 35, 45, 0, 0), (45, 0, 46, 0, 0), (46, 49, 49, 11, 0), (49, 1, 50, 1, 0), (50, 50, 53, 1, 11), (53, 0, 54, 0, 0), (54, 49, 57, 11, 0), (57, 1, 58, 2, 0), (58, 50, 61, 1, 12), (61, 0, 62, 0, 0), (62, 49, 65, 11, 0), (65, 61, 68, 20, 33), (68, 62, 69, 0, 0)]
theorem ve_X11_rate_23 : zget kd_X11_rate 23 = vb_X11_rate_23.map vq ++ vrest kd_X11_rate (none) := rfl
def vb_X11_deliver_0 : List VE := [(0, 0, 1, 0, 0), (1, 1, 2, 1, 0), (2, 61, 5, 146, 194), (5, 38, 8, 10, 0), (8, 7, 9, 4294967295, 0), (9, 62, 10, 0, 0)]
theorem ve_X11_deliver_0 : zget kd_X11_deliver 0 = vb_X11_deliver_0.map vq ++ vrest kd_X11_deliver (some 10) := rfl
def vb_X11_deliver_10 : List VE := [(10, 0, 11, 0, 0), (11, 61, 14, 151, 193), (14, 1, 15, 2, 0), (15, 7, 16, 1, 0), (16, 0, 17, 0, 0), (17, 1, 18, 1, 0), (18, 61, 21, 153, 194), (21, 60, 24, 145, 3), (24, 38, 27, 29, 0), (27, 7, 28, 4294967295, 0), (28, 62, 29, 0, 0)]
theorem ve_X11_deliver_10 : zget kd_X11_deliver 10 = vb_X11_deliver_10.map vq ++ vrest kd_X11_deliver (some 29) := rfl
def vb_X11_deliver_29 : List VE := [(29, 1, 30, 2, 0), (30, 0, 31, 0, 0), (31, 49, 34, 11, 0), (34, 61, 37, 20, 33), (37, 16, 38, 0, 0), (38, 3, 39, 3, 0), (39, 0, 40, 0, 0), (40, 8, 42, 10, 0), (42, 1, 43, 1, 0), (43, 1, 44, 2, 0), (44, 1, 45, 3, 0), (45, 61, 48, 154, 197), (48, 35, 49, 0, 0), (49, 0, 50, 0, 0), (50, 49, 53, 11, 0), (53, 49, 56, 1, 1), (56, 1, 57, 1, 0), (57, 53, 58, 0, 0), (58, 33, 59, 0, 0), (59, 49, 62, 0, 4), (62, 1, 63, 2, 0), (63, 14, 64, 0, 0), (64, 50, 67, 0, 4), (67, 0, 68, 0, 0), (68, 49, 71, 11, 0), (71, 33, 72, 0, 0), (72, 49, 75, 1, 13), (75, 1, 76, 3, 0), (76, 14, 77, 0, 0), (77, 50, 80, 1, 13), (80, 1, 81, 3, 0), (81, 62, 82, 0, 0)]
theorem ve_X11_deliver_29 : zget kd_X11_deliver 29 = vb_X11_deliver_29.map vq ++ vrest kd_X11_deliver (none) := rfl
def vb_X11_gone_0 : List VE := [(0, 0, 1, 0, 0), (1, 1, 2, 1, 0), (2, 61, 5, 146, 194), (5, 37, 8, 23, 0), (8, 0, 9, 0, 0), (9, 49, 12, 11, 0), (12, 49, 15, 1, 1), (15, 1, 16, 1, 0), (16, 53, 17, 0, 0), (17, 49, 20, 0, 4), (20, 36, 23, 24, 0)]
theorem ve_X11_gone_0 : zget kd_X11_gone 0 = vb_X11_gone_0.map vq ++ vrest kd_X11_gone (some 23) := rfl
def vb_X11_gone_23 : List VE := [(23, 7, 24, 4294967295, 0)]
theorem ve_X11_gone_23 : zget kd_X11_gone 23 = vb_X11_gone_23.map vq ++ vrest kd_X11_gone (some 24) := rfl
def vb_X11_gone_24 : List VE := [(24, 62, 25, 0, 0)]
theorem ve_X11_gone_24 : zget kd_X11_gone 24 = vb_X11_gone_24.map vq ++ vrest kd_X11_gone (none) := rfl
def vb_X11_settled_0 : List VE := [(0, 0, 1, 0, 0), (1, 49, 4, 11, 2), (4, 61, 7, 87, 161), (7, 0, 8, 0, 0), (8, 49, 11, 11, 5), (11, 61, 14, 63, 129), (14, 38, 17, 19, 0), (17, 7, 18, 4294967295, 0), (18, 62, 19, 0, 0)]
theorem ve_X11_settled_0 : zget kd_X11_settled 0 = vb_X11_settled_0.map vq ++ vrest kd_X11_settled (some 19) := rfl
def vb_X11_settled_19 : List VE := [(19, 1, 20, 1, 0), (20, 7, 21, 4294967295, 0), (21, 44, 24, 34, 0), (24, 0, 25, 0, 0), (25, 49, 28, 11, 5), (28, 61, 31, 67, 129), (31, 36, 34, 42, 0)]
theorem ve_X11_settled_19 : zget kd_X11_settled 19 = vb_X11_settled_19.map vq ++ vrest kd_X11_settled (some 34) := rfl
def vb_X11_settled_34 : List VE := [(34, 0, 35, 0, 0), (35, 49, 38, 11, 5), (38, 1, 39, 1, 0), (39, 61, 42, 69, 130)]
theorem ve_X11_settled_34 : zget kd_X11_settled 34 = vb_X11_settled_34.map vq ++ vrest kd_X11_settled (some 42) := rfl
def vb_X11_settled_42 : List VE := [(42, 62, 43, 0, 0)]
theorem ve_X11_settled_42 : zget kd_X11_settled 42 = vb_X11_settled_42.map vq ++ vrest kd_X11_settled (none) := rfl
def vb_X11_cure_0 : List VE := [(0, 0, 1, 0, 0), (1, 49, 4, 11, 2), (4, 61, 7, 87, 161), (7, 0, 8, 0, 0), (8, 1, 9, 1, 0), (9, 61, 12, 147, 194), (12, 37, 15, 42, 0), (15, 0, 16, 0, 0), (16, 49, 19, 11, 2), (19, 49, 22, 9, 2), (22, 1, 23, 1, 0), (23, 51, 24, 0, 0), (24, 40, 27, 42, 0), (27, 0, 28, 0, 0), (28, 49, 31, 11, 0), (31, 49, 34, 1, 0), (34, 49, 37, 8, 3), (37, 8, 39, 8, 0), (39, 45, 42, 44, 0)]
theorem ve_X11_cure_0 : zget kd_X11_cure 0 = vb_X11_cure_0.map vq ++ vrest kd_X11_cure (some 42) := rfl
def vb_X11_cure_42 : List VE := [(42, 7, 43, 4294967295, 0), (43, 62, 44, 0, 0)]
theorem ve_X11_cure_42 : zget kd_X11_cure 42 = vb_X11_cure_42.map vq ++ vrest kd_X11_cure (some 44) := rfl
def vb_X11_cure_44 : List VE := [(44, 0, 45, 0, 0), (45, 49, 48, 11, 0), (48, 49, 51, 1, 3), (51, 1, 52, 1, 0), (52, 53, 53, 0, 0), (53, 49, 56, 5, 3), (56, 5, 57, 2, 0), (57, 7, 58, 0, 0), (58, 3, 60, 4, 0)]
theorem ve_X11_cure_44 : zget kd_X11_cure 44 = vb_X11_cure_44.map vq ++ vrest kd_X11_cure (some 60) := rfl
def vb_X11_cure_60 : List VE := [(60, 1, 62, 4, 0), (62, 2, 63, 2, 0), (63, 60, 66, 76, 1), (66, 46, 69, 127, 0), (69, 2, 70, 2, 0), (70, 1, 72, 4, 0), (72, 60, 75, 77, 2), (75, 3, 77, 5, 0), (77, 1, 79, 5, 0), (79, 8, 81, 37, 0), (81, 44, 84, 88, 0), (84, 7, 85, 0, 0), (85, 36, 88, 98, 0)]
theorem ve_X11_cure_60 : zget kd_X11_cure 60 = vb_X11_cure_60.map vq ++ vrest kd_X11_cure (some 88) := rfl
def vb_X11_cure_88 : List VE := [(88, 0, 89, 0, 0), (89, 49, 92, 11, 0), (92, 1, 93, 1, 0), (93, 1, 95, 5, 0), (95, 61, 98, 18, 35)]
theorem ve_X11_cure_88 : zget kd_X11_cure 88 = vb_X11_cure_88.map vq ++ vrest kd_X11_cure (some 98) := rfl
def vb_X11_cure_98 : List VE := [(98, 3, 100, 6, 0), (100, 1, 102, 6, 0), (102, 37, 105, 121, 0), (105, 9, 108, 256, 0), (108, 1, 110, 5, 0), (110, 60, 113, 74, 1), (113, 16, 114, 0, 0), (114, 1, 116, 6, 0), (116, 60, 119, 74, 1), (119, 14, 120, 0, 0), (120, 62, 121, 0, 0)]
theorem ve_X11_cure_98 : zget kd_X11_cure 98 = vb_X11_cure_98.map vq ++ vrest kd_X11_cure (some 121) := rfl
def vb_X11_cure_121 : List VE := [(121, 6, 124, 4, 1), (124, 36, 127, 60, 0)]
theorem ve_X11_cure_121 : zget kd_X11_cure 121 = vb_X11_cure_121.map vq ++ vrest kd_X11_cure (some 127) := rfl
def vb_X11_cure_127 : List VE := [(127, 7, 128, 4294967295, 0), (128, 62, 129, 0, 0)]
theorem ve_X11_cure_127 : zget kd_X11_cure 127 = vb_X11_cure_127.map vq ++ vrest kd_X11_cure (none) := rfl
def vb_X11_strike_0 : List VE := [(0, 0, 1, 0, 0), (1, 1, 2, 1, 0), (2, 61, 5, 147, 194), (5, 38, 8, 10, 0), (8, 7, 9, 4294967295, 0), (9, 62, 10, 0, 0)]
theorem ve_X11_strike_0 : zget kd_X11_strike 0 = vb_X11_strike_0.map vq ++ vrest kd_X11_strike (some 10) := rfl
def vb_X11_strike_10 : List VE := [(10, 0, 11, 0, 0), (11, 8, 13, 7, 0), (13, 1, 14, 1, 0), (14, 7, 15, 0, 0), (15, 7, 16, 0, 0), (16, 61, 19, 154, 197), (19, 4, 20, 2, 0), (20, 0, 21, 2, 0), (21, 0, 22, 0, 0), (22, 49, 25, 11, 0), (25, 1, 26, 1, 0), (26, 0, 27, 2, 0), (27, 49, 30, 2, 5), (30, 61, 33, 13, 35), (33, 50, 36, 2, 197), (36, 0, 37, 0, 0), (37, 49, 40, 11, 0), (40, 49, 43, 1, 4), (43, 62, 44, 0, 0)]
theorem ve_X11_strike_10 : zget kd_X11_strike 10 = vb_X11_strike_10.map vq ++ vrest kd_X11_strike (none) := rfl
def vb_X11_back_0 : List VE := [(0, 0, 1, 0, 0), (1, 49, 4, 11, 7), (4, 38, 7, 9, 0), (7, 7, 8, 4294967295, 0), (8, 62, 9, 0, 0)]
theorem ve_X11_back_0 : zget kd_X11_back 0 = vb_X11_back_0.map vq ++ vrest kd_X11_back (some 9) := rfl
def vb_X11_back_9 : List VE := [(9, 0, 10, 0, 0), (10, 49, 13, 11, 6), (13, 0, 14, 0, 0), (14, 49, 17, 11, 8), (17, 53, 18, 0, 0), (18, 0, 19, 0, 0), (19, 49, 22, 11, 0), (22, 61, 25, 31, 50), (25, 0, 26, 0, 0), (26, 0, 27, 0, 0), (27, 49, 30, 11, 8), (30, 38, 33, 38, 0), (33, 8, 35, 19, 0), (35, 36, 38, 44, 0)]
theorem ve_X11_back_9 : zget kd_X11_back 9 = vb_X11_back_9.map vq ++ vrest kd_X11_back (some 38) := rfl
def vb_X11_back_38 : List VE := [(38, 0, 39, 0, 0), (39, 49, 42, 11, 8), (42, 7, 43, 1, 0), (43, 15, 44, 0, 0)]
theorem ve_X11_back_38 : zget kd_X11_back 38 = vb_X11_back_38.map vq ++ vrest kd_X11_back (some 44) := rfl
def vb_X11_back_44 : List VE := [(44, 50, 47, 11, 8), (47, 0, 48, 0, 0), (48, 33, 49, 0, 0), (49, 49, 52, 11, 7), (52, 7, 53, 1, 0), (53, 15, 54, 0, 0), (54, 50, 57, 11, 7), (57, 0, 58, 0, 0), (58, 61, 61, 155, 193), (61, 0, 62, 0, 0), (62, 49, 65, 11, 7), (65, 62, 66, 0, 0)]
theorem ve_X11_back_44 : zget kd_X11_back 44 = vb_X11_back_44.map vq ++ vrest kd_X11_back (none) := rfl
def vb_X11_write_0 : List VE := [(0, 0, 1, 0, 0), (1, 7, 2, 0, 0), (2, 50, 5, 11, 10), (5, 7, 6, 0, 0), (6, 3, 7, 1, 0)]
theorem ve_X11_write_0 : zget kd_X11_write 0 = vb_X11_write_0.map vq ++ vrest kd_X11_write (some 7) := rfl
def vb_X11_write_7 : List VE := [(7, 1, 8, 1, 0), (8, 0, 9, 0, 0), (9, 49, 12, 11, 0), (12, 49, 15, 1, 2), (15, 46, 18, 108, 0), (18, 0, 19, 0, 0), (19, 49, 22, 11, 0), (22, 49, 25, 1, 1), (25, 1, 26, 1, 0), (26, 53, 27, 0, 0), (27, 4, 28, 2, 0), (28, 0, 29, 0, 0), (29, 8, 31, 98, 0), (31, 61, 34, 149, 194), (34, 7, 35, 0, 0), (35, 3, 36, 3, 0)]
theorem ve_X11_write_7 : zget kd_X11_write 7 = vb_X11_write_7.map vq ++ vrest kd_X11_write (some 36) := rfl
def vb_X11_write_36 : List VE := [(36, 1, 37, 3, 0), (37, 0, 38, 2, 0), (38, 49, 41, 0, 0), (41, 60, 44, 76, 1), (44, 46, 47, 68, 0), (47, 0, 48, 0, 0), (48, 0, 49, 2, 0), (49, 49, 52, 0, 0), (52, 1, 53, 3, 0), (53, 60, 56, 77, 2), (56, 60, 59, 74, 1), (59, 61, 62, 149, 194), (62, 6, 65, 3, 1), (65, 36, 68, 36, 0)]
theorem ve_X11_write_36 : zget kd_X11_write 36 = vb_X11_write_36.map vq ++ vrest kd_X11_write (some 68) := rfl
def vb_X11_write_68 : List VE := [(68, 0, 69, 0, 0), (69, 8, 71, 58, 0), (71, 61, 74, 149, 194), (74, 0, 75, 0, 0), (75, 0, 76, 2, 0), (76, 49, 79, 0, 1), (79, 61, 82, 150, 194), (82, 0, 83, 0, 0), (83, 8, 85, 42, 0), (85, 61, 88, 149, 194), (88, 0, 89, 0, 0), (89, 0, 90, 2, 0), (90, 49, 93, 0, 2), (93, 61, 96, 150, 194), (96, 0, 97, 0, 0), (97, 8, 99, 59, 0), (99, 61, 102, 149, 194), (102, 6, 105, 1, 1), (105, 36, 108, 7, 0)]
theorem ve_X11_write_68 : zget kd_X11_write 68 = vb_X11_write_68.map vq ++ vrest kd_X11_write (some 108) := rfl
def vb_X11_write_108 : List VE := [(108, 0, 109, 0, 0), (109, 49, 112, 11, 10), (112, 62, 113, 0, 0)]
theorem ve_X11_write_108 : zget kd_X11_write 108 = vb_X11_write_108.map vq ++ vrest kd_X11_write (none) := rfl
def vb_X11_octet_0 : List VE := [(0, 1, 1, 1, 0), (1, 7, 2, 0, 0), (2, 0, 3, 0, 0), (3, 49, 6, 11, 10), (6, 7, 7, 1, 0), (7, 15, 8, 0, 0), (8, 60, 11, 145, 3), (11, 37, 14, 23, 0), (14, 0, 15, 0, 0), (15, 49, 18, 11, 9), (18, 1, 19, 1, 0), (19, 51, 20, 0, 0), (20, 36, 23, 24, 0)]
theorem ve_X11_octet_0 : zget kd_X11_octet 0 = vb_X11_octet_0.map vq ++ vrest kd_X11_octet (some 23) := rfl
def vb_X11_octet_23 : List VE := [(23, 7, 24, 4294967295, 0)]
theorem ve_X11_octet_23 : zget kd_X11_octet 23 = vb_X11_octet_23.map vq ++ vrest kd_X11_octet (some 24) := rfl
def vb_X11_octet_24 : List VE := [(24, 62, 25, 0, 0)]
theorem ve_X11_octet_24 : zget kd_X11_octet 24 = vb_X11_octet_24.map vq ++ vrest kd_X11_octet (none) := rfl
def vb_X11_within_0 : List VE := [(0, 1, 1, 0, 0), (1, 1, 2, 1, 0), (2, 45, 5, 14, 0), (5, 1, 6, 0, 0), (6, 1, 7, 2, 0), (7, 47, 10, 14, 0), (10, 7, 11, 1, 0), (11, 36, 14, 15, 0)]
theorem ve_X11_within_0 : zget kd_X11_within 0 = vb_X11_within_0.map vq ++ vrest kd_X11_within (some 14) := rfl
def vb_X11_within_14 : List VE := [(14, 7, 15, 0, 0)]
theorem ve_X11_within_14 : zget kd_X11_within 14 = vb_X11_within_14.map vq ++ vrest kd_X11_within (some 15) := rfl
def vb_X11_within_15 : List VE := [(15, 62, 16, 2, 0)]
theorem ve_X11_within_15 : zget kd_X11_within 15 = vb_X11_within_15.map vq ++ vrest kd_X11_within (none) := rfl
def vb_X11_isBill_0 : List VE := [(0, 1, 1, 1, 0), (1, 7, 2, 0, 0), (2, 0, 3, 0, 0), (3, 49, 6, 11, 0), (6, 49, 9, 1, 2), (9, 7, 10, 1, 0), (10, 15, 11, 0, 0), (11, 60, 14, 145, 3), (14, 62, 15, 2, 0)]
theorem ve_X11_isBill_0 : zget kd_X11_isBill 0 = vb_X11_isBill_0.map vq ++ vrest kd_X11_isBill (none) := rfl
def vb_X11_isLine_0 : List VE := [(0, 1, 1, 1, 0), (1, 7, 2, 0, 0), (2, 0, 3, 0, 0), (3, 49, 6, 11, 0), (6, 49, 9, 1, 4), (9, 7, 10, 1, 0), (10, 15, 11, 0, 0), (11, 60, 14, 145, 3), (14, 62, 15, 2, 0)]
theorem ve_X11_isLine_0 : zget kd_X11_isLine 0 = vb_X11_isLine_0.map vq ++ vrest kd_X11_isLine (none) := rfl
def vb_X11_isHold_0 : List VE := [(0, 1, 1, 0, 0), (1, 7, 2, 0, 0), (2, 7, 3, 4, 0), (3, 60, 6, 145, 3), (6, 62, 7, 2, 0)]
theorem ve_X11_isHold_0 : zget kd_X11_isHold 0 = vb_X11_isHold_0.map vq ++ vrest kd_X11_isHold (none) := rfl
def vb_X11_put_0 : List VE := [(0, 0, 1, 0, 0), (1, 49, 4, 11, 10), (4, 0, 5, 0, 0), (5, 49, 8, 11, 9), (8, 54, 9, 0, 0), (9, 46, 12, 32, 0), (12, 0, 13, 0, 0), (13, 49, 16, 11, 9), (16, 0, 17, 0, 0), (17, 49, 20, 11, 10), (20, 1, 21, 1, 0), (21, 52, 22, 0, 0), (22, 0, 23, 0, 0), (23, 33, 24, 0, 0), (24, 49, 27, 11, 10), (27, 7, 28, 1, 0), (28, 14, 29, 0, 0), (29, 50, 32, 11, 10)]
theorem ve_X11_put_0 : zget kd_X11_put 0 = vb_X11_put_0.map vq ++ vrest kd_X11_put (some 32) := rfl
def vb_X11_put_32 : List VE := [(32, 65, 33, 0, 0)]
theorem ve_X11_put_32 : zget kd_X11_put 32 = vb_X11_put_32.map vq ++ vrest kd_X11_put (none) := rfl
def vb_X11_putNumber_0 : List VE := [(0, 7, 1, 0, 0), (1, 3, 2, 2, 0), (2, 9, 5, 1000, 0), (5, 3, 6, 3, 0)]
theorem ve_X11_putNumber_0 : zget kd_X11_putNumber 0 = vb_X11_putNumber_0.map vq ++ vrest kd_X11_putNumber (some 6) := rfl
def vb_X11_putNumber_6 : List VE := [(6, 1, 7, 3, 0), (7, 7, 8, 1, 0), (8, 45, 11, 55, 0), (11, 1, 12, 1, 0), (12, 1, 13, 3, 0), (13, 17, 14, 0, 0), (14, 8, 16, 10, 0), (16, 18, 17, 0, 0), (17, 3, 19, 4, 0), (19, 1, 20, 2, 0), (20, 38, 23, 28, 0), (23, 1, 25, 4, 0), (25, 37, 28, 32, 0)]
theorem ve_X11_putNumber_6 : zget kd_X11_putNumber 6 = vb_X11_putNumber_6.map vq ++ vrest kd_X11_putNumber (some 28) := rfl
def vb_X11_putNumber_28 : List VE := [(28, 7, 29, 1, 0), (29, 36, 32, 33, 0)]
theorem ve_X11_putNumber_28 : zget kd_X11_putNumber 28 = vb_X11_putNumber_28.map vq ++ vrest kd_X11_putNumber (some 32) := rfl
def vb_X11_putNumber_32 : List VE := [(32, 7, 33, 0, 0)]
theorem ve_X11_putNumber_32 : zget kd_X11_putNumber 32 = vb_X11_putNumber_32.map vq ++ vrest kd_X11_putNumber (some 33) := rfl
def vb_X11_putNumber_33 : List VE := [(33, 3, 34, 2, 0), (34, 1, 35, 2, 0), (35, 37, 38, 47, 0), (38, 0, 39, 0, 0), (39, 8, 41, 48, 0), (41, 1, 43, 4, 0), (43, 14, 44, 0, 0), (44, 61, 47, 149, 194)]
theorem ve_X11_putNumber_33 : zget kd_X11_putNumber 33 = vb_X11_putNumber_33.map vq ++ vrest kd_X11_putNumber (some 47) := rfl
def vb_X11_putNumber_47 : List VE := [(47, 1, 48, 3, 0), (48, 8, 50, 10, 0), (50, 17, 51, 0, 0), (51, 3, 52, 3, 0), (52, 36, 55, 6, 0)]
theorem ve_X11_putNumber_47 : zget kd_X11_putNumber 47 = vb_X11_putNumber_47.map vq ++ vrest kd_X11_putNumber (some 55) := rfl
def vb_X11_putNumber_55 : List VE := [(55, 65, 56, 0, 0)]
theorem ve_X11_putNumber_55 : zget kd_X11_putNumber 55 = vb_X11_putNumber_55.map vq ++ vrest kd_X11_putNumber (none) := rfl
def vb_X11_matchAll_0 : List VE := [(0, 0, 1, 0, 0), (1, 49, 4, 11, 2), (4, 61, 7, 87, 161), (7, 0, 8, 0, 0), (8, 49, 11, 11, 3), (11, 61, 14, 57, 113), (14, 65, 15, 0, 0)]
theorem ve_X11_matchAll_0 : zget kd_X11_matchAll 0 = vb_X11_matchAll_0.map vq ++ vrest kd_X11_matchAll (none) := rfl
def vb_X11_paidFor_0 : List VE := [(0, 0, 1, 0, 0), (1, 49, 4, 11, 0), (4, 49, 7, 1, 1), (7, 1, 8, 1, 0), (8, 53, 9, 0, 0), (9, 4, 10, 2, 0), (10, 0, 11, 2, 0), (11, 0, 12, 2, 0), (12, 49, 15, 0, 3), (15, 0, 16, 0, 0), (16, 49, 19, 11, 3), (19, 49, 22, 6, 8), (22, 1, 23, 1, 0), (23, 51, 24, 0, 0), (24, 56, 27, 0, 0), (27, 0, 28, 2, 0), (28, 49, 31, 0, 2), (31, 0, 32, 0, 0), (32, 49, 35, 11, 0), (35, 49, 38, 1, 9), (38, 56, 41, 0, 0), (41, 61, 44, 4, 19), (44, 62, 45, 0, 0)]
theorem ve_X11_paidFor_0 : zget kd_X11_paidFor 0 = vb_X11_paidFor_0.map vq ++ vrest kd_X11_paidFor (none) := rfl
def vb_X11_balesInShed_0 : List VE := [(0, 0, 1, 0, 0), (1, 49, 4, 11, 0), (4, 49, 7, 1, 1), (7, 1, 8, 1, 0), (8, 53, 9, 0, 0), (9, 4, 10, 2, 0), (10, 0, 11, 0, 0), (11, 49, 14, 11, 2), (14, 49, 17, 9, 7), (17, 1, 18, 1, 0), (18, 51, 19, 0, 0), (19, 0, 20, 2, 0), (20, 61, 23, 3, 17), (23, 56, 26, 0, 0), (26, 3, 27, 3, 0), (27, 7, 28, 0, 0), (28, 1, 29, 3, 0), (29, 0, 30, 0, 0), (30, 49, 33, 11, 3), (33, 1, 34, 1, 0), (34, 61, 37, 61, 114), (37, 14, 38, 0, 0), (38, 0, 39, 2, 0), (39, 49, 42, 0, 4), (42, 15, 43, 0, 0), (43, 55, 46, 0, 0), (46, 62, 47, 0, 0)]
theorem ve_X11_balesInShed_0 : zget kd_X11_balesInShed 0 = vb_X11_balesInShed_0.map vq ++ vrest kd_X11_balesInShed (none) := rfl
def vb_X11_noteDeed_0 : List VE := [(0, 0, 1, 0, 0), (1, 0, 2, 0, 0), (2, 49, 5, 11, 8), (5, 8, 7, 19, 0), (7, 44, 10, 14, 0), (10, 7, 11, 0, 0), (11, 36, 14, 20, 0)]
theorem ve_X11_noteDeed_0 : zget kd_X11_noteDeed 0 = vb_X11_noteDeed_0.map vq ++ vrest kd_X11_noteDeed (some 14) := rfl
def vb_X11_noteDeed_14 : List VE := [(14, 0, 15, 0, 0), (15, 49, 18, 11, 8), (18, 7, 19, 1, 0), (19, 14, 20, 0, 0)]
theorem ve_X11_noteDeed_14 : zget kd_X11_noteDeed 14 = vb_X11_noteDeed_14.map vq ++ vrest kd_X11_noteDeed (some 20) := rfl
def vb_X11_noteDeed_20 : List VE := [(20, 50, 23, 11, 8), (23, 0, 24, 0, 0), (24, 8, 26, 20, 0), (26, 0, 27, 0, 0), (27, 49, 30, 11, 7), (30, 7, 31, 1, 0), (31, 14, 32, 0, 0), (32, 56, 35, 0, 0), (35, 50, 38, 11, 7), (38, 0, 39, 0, 0), (39, 49, 42, 11, 6), (42, 0, 43, 0, 0), (43, 49, 46, 11, 8), (46, 53, 47, 0, 0), (47, 4, 49, 5, 0), (49, 0, 51, 5, 0), (51, 1, 52, 1, 0), (52, 50, 55, 2, 0), (55, 0, 57, 5, 0), (57, 1, 58, 2, 0), (58, 50, 61, 2, 1), (61, 0, 63, 5, 0), (63, 1, 64, 3, 0), (64, 50, 67, 2, 2), (67, 0, 69, 5, 0), (69, 1, 71, 4, 0), (71, 50, 74, 2, 3), (74, 0, 75, 0, 0), (75, 61, 78, 155, 193), (78, 0, 80, 5, 0), (80, 63, 81, 0, 0)]
theorem ve_X11_noteDeed_20 : zget kd_X11_noteDeed 20 = vb_X11_noteDeed_20.map vq ++ vrest kd_X11_noteDeed (none) := rfl
def vb_X11_forgetAnswers_0 : List VE := [(0, 0, 1, 0, 0), (1, 49, 4, 11, 2), (4, 7, 5, 0, 0), (5, 50, 8, 9, 129), (8, 0, 9, 0, 0), (9, 49, 12, 11, 3), (12, 7, 13, 0, 0), (13, 50, 16, 6, 130), (16, 0, 17, 0, 0), (17, 49, 20, 11, 4), (20, 7, 21, 0, 0), (21, 50, 24, 3, 130), (24, 65, 25, 0, 0)]
theorem ve_X11_forgetAnswers_0 : zget kd_X11_forgetAnswers 0 = vb_X11_forgetAnswers_0.map vq ++ vrest kd_X11_forgetAnswers (none) := rfl
def vb_X12_isIn_0 : List VE := [(0, 1, 1, 0, 0), (1, 1, 2, 1, 0), (2, 45, 5, 14, 0), (5, 1, 6, 0, 0), (6, 1, 7, 2, 0), (7, 47, 10, 14, 0), (10, 7, 11, 1, 0), (11, 36, 14, 15, 0)]
theorem ve_X12_isIn_0 : zget kd_X12_isIn 0 = vb_X12_isIn_0.map vq ++ vrest kd_X12_isIn (some 14) := rfl
def vb_X12_isIn_14 : List VE := [(14, 7, 15, 0, 0)]
theorem ve_X12_isIn_14 : zget kd_X12_isIn 14 = vb_X12_isIn_14.map vq ++ vrest kd_X12_isIn (some 15) := rfl
def vb_X12_isIn_15 : List VE := [(15, 62, 16, 2, 0)]
theorem ve_X12_isIn_15 : zget kd_X12_isIn 15 = vb_X12_isIn_15.map vq ++ vrest kd_X12_isIn (none) := rfl
def vb_X12_deed_0 : List VE := [(0, 0, 1, 0, 0), (1, 49, 4, 12, 2), (4, 8, 6, 20, 0), (6, 44, 9, 50, 0), (9, 7, 10, 0, 0), (10, 3, 11, 1, 0)]
theorem ve_X12_deed_0 : zget kd_X12_deed 0 = vb_X12_deed_0.map vq ++ vrest kd_X12_deed (some 11) := rfl
def vb_X12_deed_11 : List VE := [(11, 1, 12, 1, 0), (12, 9, 15, 21356, 0), (15, 46, 18, 40, 0), (18, 0, 19, 0, 0), (19, 49, 22, 12, 1), (22, 1, 23, 1, 0), (23, 0, 24, 0, 0), (24, 49, 27, 12, 1), (27, 1, 28, 1, 0), (28, 9, 31, 1124, 0), (31, 14, 32, 0, 0), (32, 51, 33, 0, 0), (33, 52, 34, 0, 0), (34, 6, 37, 1, 1), (37, 36, 40, 11, 0)]
theorem ve_X12_deed_11 : zget kd_X12_deed 11 = vb_X12_deed_11.map vq ++ vrest kd_X12_deed (some 40) := rfl
def vb_X12_deed_40 : List VE := [(40, 0, 41, 0, 0), (41, 33, 42, 0, 0), (42, 49, 45, 12, 2), (45, 7, 46, 1, 0), (46, 15, 47, 0, 0), (47, 50, 50, 12, 2)]
theorem ve_X12_deed_40 : zget kd_X12_deed 40 = vb_X12_deed_40.map vq ++ vrest kd_X12_deed (some 50) := rfl
def vb_X12_deed_50 : List VE := [(50, 7, 51, 0, 0), (51, 3, 52, 1, 0)]
theorem ve_X12_deed_50 : zget kd_X12_deed 50 = vb_X12_deed_50.map vq ++ vrest kd_X12_deed (some 52) := rfl
def vb_X12_deed_52 : List VE := [(52, 1, 53, 1, 0), (53, 9, 56, 1124, 0), (56, 46, 59, 86, 0), (59, 0, 60, 0, 0), (60, 49, 63, 12, 1), (63, 9, 66, 1124, 0), (66, 0, 67, 0, 0), (67, 49, 70, 12, 2), (70, 16, 71, 0, 0), (71, 1, 72, 1, 0), (72, 14, 73, 0, 0), (73, 0, 74, 0, 0), (74, 49, 77, 12, 0), (77, 1, 78, 1, 0), (78, 51, 79, 0, 0), (79, 52, 80, 0, 0), (80, 6, 83, 1, 1), (83, 36, 86, 52, 0)]
theorem ve_X12_deed_52 : zget kd_X12_deed 52 = vb_X12_deed_52.map vq ++ vrest kd_X12_deed (some 86) := rfl
def vb_X12_deed_86 : List VE := [(86, 0, 87, 0, 0), (87, 33, 88, 0, 0), (88, 49, 91, 12, 2), (91, 7, 92, 1, 0), (92, 14, 93, 0, 0), (93, 50, 96, 12, 2), (96, 65, 97, 0, 0)]
theorem ve_X12_deed_86 : zget kd_X12_deed 86 = vb_X12_deed_86.map vq ++ vrest kd_X12_deed (none) := rfl
def vb_X12_back_0 : List VE := [(0, 0, 1, 0, 0), (1, 49, 4, 12, 2), (4, 38, 7, 9, 0), (7, 7, 8, 4294967295, 0), (8, 62, 9, 0, 0)]
theorem ve_X12_back_0 : zget kd_X12_back 0 = vb_X12_back_0.map vq ++ vrest kd_X12_back (some 9) := rfl
def vb_X12_back_9 : List VE := [(9, 0, 10, 0, 0), (10, 33, 11, 0, 0), (11, 49, 14, 12, 2), (14, 7, 15, 1, 0), (15, 15, 16, 0, 0), (16, 50, 19, 12, 2), (19, 7, 20, 0, 0), (20, 3, 21, 1, 0)]
theorem ve_X12_back_9 : zget kd_X12_back 9 = vb_X12_back_9.map vq ++ vrest kd_X12_back (some 21) := rfl
def vb_X12_back_21 : List VE := [(21, 1, 22, 1, 0), (22, 9, 25, 1124, 0), (25, 46, 28, 55, 0), (28, 0, 29, 0, 0), (29, 49, 32, 12, 0), (32, 1, 33, 1, 0), (33, 0, 34, 0, 0), (34, 49, 37, 12, 1), (37, 9, 40, 1124, 0), (40, 0, 41, 0, 0), (41, 49, 44, 12, 2), (44, 16, 45, 0, 0), (45, 1, 46, 1, 0), (46, 14, 47, 0, 0), (47, 51, 48, 0, 0), (48, 52, 49, 0, 0), (49, 6, 52, 1, 1), (52, 36, 55, 21, 0)]
theorem ve_X12_back_21 : zget kd_X12_back 21 = vb_X12_back_21.map vq ++ vrest kd_X12_back (some 55) := rfl
def vb_X12_back_55 : List VE := [(55, 0, 56, 0, 0), (56, 49, 59, 12, 2), (59, 62, 60, 0, 0)]
theorem ve_X12_back_55 : zget kd_X12_back 55 = vb_X12_back_55.map vq ++ vrest kd_X12_back (none) := rfl
def vb_X12_four_0 : List VE := [(0, 8, 2, 24, 0), (2, 3, 3, 2, 0)]
theorem ve_X12_four_0 : zget kd_X12_four 0 = vb_X12_four_0.map vq ++ vrest kd_X12_four (some 3) := rfl
def vb_X12_four_3 : List VE := [(3, 1, 4, 2, 0), (4, 39, 7, 36, 0), (7, 0, 8, 0, 0), (8, 49, 11, 12, 3), (11, 0, 12, 0, 0), (12, 49, 15, 12, 4), (15, 1, 16, 1, 0), (16, 1, 17, 2, 0), (17, 23, 18, 0, 0), (18, 26, 19, 0, 0), (19, 58, 20, 0, 0), (20, 0, 21, 0, 0), (21, 33, 22, 0, 0), (22, 49, 25, 12, 4), (25, 7, 26, 1, 0), (26, 14, 27, 0, 0), (27, 50, 30, 12, 4), (30, 6, 33, 2, 4294967288), (33, 36, 36, 3, 0)]
theorem ve_X12_four_3 : zget kd_X12_four 3 = vb_X12_four_3.map vq ++ vrest kd_X12_four (some 36) := rfl
def vb_X12_four_36 : List VE := [(36, 65, 37, 0, 0)]
theorem ve_X12_four_36 : zget kd_X12_four 36 = vb_X12_four_36.map vq ++ vrest kd_X12_four (none) := rfl
def vb_X12_feed_0 : List VE := [(0, 0, 1, 0, 0), (1, 49, 4, 12, 4), (4, 8, 6, 20, 0), (6, 14, 7, 0, 0), (7, 9, 10, 600, 0), (10, 48, 13, 15, 0), (13, 7, 14, 4294967295, 0), (14, 62, 15, 0, 0)]
theorem ve_X12_feed_0 : zget kd_X12_feed 0 = vb_X12_feed_0.map vq ++ vrest kd_X12_feed (some 15) := rfl
def vb_X12_feed_15 : List VE := [(15, 0, 16, 0, 0), (16, 1, 17, 1, 0), (17, 61, 20, 160, 210), (20, 0, 21, 0, 0), (21, 1, 22, 2, 0), (22, 61, 25, 160, 210), (25, 0, 26, 0, 0), (26, 1, 27, 3, 0), (27, 61, 30, 160, 210), (30, 0, 31, 0, 0), (31, 1, 33, 4, 0), (33, 61, 36, 160, 210), (36, 0, 37, 0, 0), (37, 1, 39, 5, 0), (39, 61, 42, 160, 210), (42, 0, 43, 0, 0), (43, 49, 46, 12, 4), (46, 62, 47, 0, 0)]
theorem ve_X12_feed_15 : zget kd_X12_feed 15 = vb_X12_feed_15.map vq ++ vrest kd_X12_feed (none) := rfl
def vb_X12_end_0 : List VE := [(0, 1, 1, 1, 0), (1, 7, 2, 0, 0), (2, 0, 3, 0, 0), (3, 49, 6, 12, 4), (6, 60, 9, 156, 3), (9, 38, 12, 14, 0), (12, 7, 13, 4294967295, 0), (13, 62, 14, 0, 0)]
theorem ve_X12_end_0 : zget kd_X12_end 0 = vb_X12_end_0.map vq ++ vrest kd_X12_end (some 14) := rfl
def vb_X12_end_14 : List VE := [(14, 0, 15, 0, 0), (15, 1, 16, 1, 0), (16, 50, 19, 12, 4), (19, 1, 20, 1, 0), (20, 62, 21, 0, 0)]
theorem ve_X12_end_14 : zget kd_X12_end 14 = vb_X12_end_14.map vq ++ vrest kd_X12_end (none) := rfl
def vb_X12_here_0 : List VE := [(0, 0, 1, 0, 0), (1, 49, 4, 12, 5), (4, 0, 5, 0, 0), (5, 49, 8, 12, 4), (8, 46, 11, 27, 0), (11, 0, 12, 0, 0), (12, 49, 15, 12, 3), (15, 0, 16, 0, 0), (16, 49, 19, 12, 5), (19, 57, 20, 0, 0), (20, 9, 23, 255, 0), (23, 19, 24, 0, 0), (24, 36, 27, 28, 0)]
theorem ve_X12_here_0 : zget kd_X12_here 0 = vb_X12_here_0.map vq ++ vrest kd_X12_here (some 27) := rfl
def vb_X12_here_27 : List VE := [(27, 7, 28, 4294967295, 0)]
theorem ve_X12_here_27 : zget kd_X12_here 27 = vb_X12_here_27.map vq ++ vrest kd_X12_here (some 28) := rfl
def vb_X12_here_28 : List VE := [(28, 62, 29, 0, 0)]
theorem ve_X12_here_28 : zget kd_X12_here 28 = vb_X12_here_28.map vq ++ vrest kd_X12_here (none) := rfl
def vb_X12_isFigure_0 : List VE := [(0, 1, 1, 0, 0), (1, 8, 3, 48, 0), (3, 45, 6, 16, 0), (6, 1, 7, 0, 0), (7, 8, 9, 57, 0), (9, 47, 12, 16, 0), (12, 7, 13, 1, 0), (13, 36, 16, 17, 0)]
theorem ve_X12_isFigure_0 : zget kd_X12_isFigure 0 = vb_X12_isFigure_0.map vq ++ vrest kd_X12_isFigure (some 16) := rfl
def vb_X12_isFigure_16 : List VE := [(16, 7, 17, 0, 0)]
theorem ve_X12_isFigure_16 : zget kd_X12_isFigure 16 = vb_X12_isFigure_16.map vq ++ vrest kd_X12_isFigure (some 17) := rfl
def vb_X12_isFigure_17 : List VE := [(17, 62, 18, 2, 0)]
theorem ve_X12_isFigure_17 : zget kd_X12_isFigure 17 = vb_X12_isFigure_17.map vq ++ vrest kd_X12_isFigure (none) := rfl
def vb_X12_isSign_0 : List VE := [(0, 1, 1, 0, 0), (1, 60, 4, 164, 1), (4, 38, 7, 19, 0), (7, 1, 8, 0, 0), (8, 8, 10, 65, 0), (10, 45, 13, 23, 0), (13, 1, 14, 0, 0), (14, 8, 16, 90, 0), (16, 47, 19, 23, 0)]
theorem ve_X12_isSign_0 : zget kd_X12_isSign 0 = vb_X12_isSign_0.map vq ++ vrest kd_X12_isSign (some 19) := rfl
def vb_X12_isSign_19 : List VE := [(19, 7, 20, 1, 0), (20, 36, 23, 24, 0)]
theorem ve_X12_isSign_19 : zget kd_X12_isSign 19 = vb_X12_isSign_19.map vq ++ vrest kd_X12_isSign (some 23) := rfl
def vb_X12_isSign_23 : List VE := [(23, 7, 24, 0, 0)]
theorem ve_X12_isSign_23 : zget kd_X12_isSign 23 = vb_X12_isSign_23.map vq ++ vrest kd_X12_isSign (some 24) := rfl
def vb_X12_isSign_24 : List VE := [(24, 62, 25, 2, 0)]
theorem ve_X12_isSign_24 : zget kd_X12_isSign 24 = vb_X12_isSign_24.map vq ++ vrest kd_X12_isSign (none) := rfl
def vb_X12_fails_0 : List VE := [(0, 0, 1, 0, 0), (1, 1, 2, 1, 0), (2, 50, 5, 12, 6), (5, 7, 6, 0, 0), (6, 62, 7, 2, 0)]
theorem ve_X12_fails_0 : zget kd_X12_fails 0 = vb_X12_fails_0.map vq ++ vrest kd_X12_fails (none) := rfl
def vb_X12_takes_0 : List VE := [(0, 0, 1, 0, 0), (1, 61, 4, 163, 209), (4, 1, 5, 1, 0), (5, 43, 8, 17, 0), (8, 0, 9, 0, 0), (9, 0, 10, 0, 0), (10, 49, 13, 12, 5), (13, 61, 16, 166, 210), (16, 62, 17, 2, 0)]
theorem ve_X12_takes_0 : zget kd_X12_takes 0 = vb_X12_takes_0.map vq ++ vrest kd_X12_takes (some 17) := rfl
def vb_X12_takes_17 : List VE := [(17, 0, 18, 0, 0), (18, 33, 19, 0, 0), (19, 49, 22, 12, 5), (22, 7, 23, 1, 0), (23, 14, 24, 0, 0), (24, 50, 27, 12, 5), (27, 7, 28, 1, 0), (28, 62, 29, 2, 0)]
theorem ve_X12_takes_17 : zget kd_X12_takes 17 = vb_X12_takes_17.map vq ++ vrest kd_X12_takes (none) := rfl
def vb_X12_fault_0 : List VE := [(0, 0, 1, 0, 0), (1, 49, 4, 12, 6), (4, 62, 5, 0, 0)]
theorem ve_X12_fault_0 : zget kd_X12_fault 0 = vb_X12_fault_0.map vq ++ vrest kd_X12_fault (none) := rfl
def vb_X12_readDigits_0 : List VE := [(0, 0, 1, 0, 0), (1, 61, 4, 163, 209), (4, 60, 7, 164, 1), (7, 38, 10, 19, 0), (10, 0, 11, 0, 0), (11, 0, 12, 0, 0), (12, 49, 15, 12, 5), (15, 61, 18, 166, 210), (18, 62, 19, 2, 0)]
theorem ve_X12_readDigits_0 : zget kd_X12_readDigits 0 = vb_X12_readDigits_0.map vq ++ vrest kd_X12_readDigits (some 19) := rfl
def vb_X12_readDigits_19 : List VE := [(19, 0, 20, 0, 0), (20, 49, 23, 12, 5), (23, 3, 24, 2, 0), (24, 0, 25, 0, 0), (25, 7, 26, 0, 0), (26, 50, 29, 12, 7)]
theorem ve_X12_readDigits_19 : zget kd_X12_readDigits 19 = vb_X12_readDigits_19.map vq ++ vrest kd_X12_readDigits (some 29) := rfl
def vb_X12_readDigits_29 : List VE := [(29, 0, 30, 0, 0), (30, 61, 33, 163, 209), (33, 60, 36, 164, 1), (36, 37, 39, 81, 0), (39, 0, 40, 0, 0), (40, 49, 43, 12, 5), (43, 1, 44, 2, 0), (44, 15, 45, 0, 0), (45, 1, 46, 1, 0), (46, 46, 49, 81, 0), (49, 0, 50, 0, 0), (50, 8, 52, 10, 0), (52, 0, 53, 0, 0), (53, 49, 56, 12, 7), (56, 16, 57, 0, 0), (57, 0, 58, 0, 0), (58, 61, 61, 163, 209), (61, 14, 62, 0, 0), (62, 8, 64, 48, 0), (64, 15, 65, 0, 0), (65, 50, 68, 12, 7), (68, 0, 69, 0, 0), (69, 33, 70, 0, 0), (70, 49, 73, 12, 5), (73, 7, 74, 1, 0), (74, 14, 75, 0, 0), (75, 50, 78, 12, 5), (78, 36, 81, 29, 0)]
theorem ve_X12_readDigits_29 : zget kd_X12_readDigits 29 = vb_X12_readDigits_29.map vq ++ vrest kd_X12_readDigits (some 81) := rfl
def vb_X12_readDigits_81 : List VE := [(81, 0, 82, 0, 0), (82, 61, 85, 163, 209), (85, 60, 88, 164, 1), (88, 37, 91, 102, 0), (91, 0, 92, 0, 0), (92, 0, 93, 0, 0), (93, 49, 96, 12, 5), (96, 61, 99, 166, 210), (99, 37, 102, 106, 0)]
theorem ve_X12_readDigits_81 : zget kd_X12_readDigits 81 = vb_X12_readDigits_81.map vq ++ vrest kd_X12_readDigits (some 102) := rfl
def vb_X12_readDigits_102 : List VE := [(102, 7, 103, 1, 0), (103, 36, 106, 107, 0)]
theorem ve_X12_readDigits_102 : zget kd_X12_readDigits 102 = vb_X12_readDigits_102.map vq ++ vrest kd_X12_readDigits (some 106) := rfl
def vb_X12_readDigits_106 : List VE := [(106, 7, 107, 0, 0)]
theorem ve_X12_readDigits_106 : zget kd_X12_readDigits 106 = vb_X12_readDigits_106.map vq ++ vrest kd_X12_readDigits (some 107) := rfl
def vb_X12_readDigits_107 : List VE := [(107, 62, 108, 2, 0)]
theorem ve_X12_readDigits_107 : zget kd_X12_readDigits 107 = vb_X12_readDigits_107.map vq ++ vrest kd_X12_readDigits (none) := rfl
def vb_X12_readCount_0 : List VE := [(0, 0, 1, 0, 0), (1, 61, 4, 163, 209), (4, 8, 6, 48, 0), (6, 43, 9, 17, 0), (9, 0, 10, 0, 0), (10, 1, 11, 1, 0), (11, 61, 14, 169, 210), (14, 38, 17, 28, 0)]
theorem ve_X12_readCount_0 : zget kd_X12_readCount 0 = vb_X12_readCount_0.map vq ++ vrest kd_X12_readCount (some 17) := rfl
def vb_X12_readCount_17 : List VE := [(17, 0, 18, 0, 0), (18, 0, 19, 0, 0), (19, 49, 22, 12, 5), (22, 61, 25, 166, 210), (25, 37, 28, 32, 0)]
theorem ve_X12_readCount_17 : zget kd_X12_readCount 17 = vb_X12_readCount_17.map vq ++ vrest kd_X12_readCount (some 28) := rfl
def vb_X12_readCount_28 : List VE := [(28, 7, 29, 1, 0), (29, 36, 32, 33, 0)]
theorem ve_X12_readCount_28 : zget kd_X12_readCount 28 = vb_X12_readCount_28.map vq ++ vrest kd_X12_readCount (some 32) := rfl
def vb_X12_readCount_32 : List VE := [(32, 7, 33, 0, 0)]
theorem ve_X12_readCount_32 : zget kd_X12_readCount 32 = vb_X12_readCount_32.map vq ++ vrest kd_X12_readCount (some 33) := rfl
def vb_X12_readCount_33 : List VE := [(33, 62, 34, 2, 0)]
theorem ve_X12_readCount_33 : zget kd_X12_readCount 33 = vb_X12_readCount_33.map vq ++ vrest kd_X12_readCount (none) := rfl
def vb_X12_readOne_0 : List VE := [(0, 0, 1, 0, 0), (1, 61, 4, 163, 209), (4, 8, 6, 48, 0), (6, 8, 8, 48, 0), (8, 1, 9, 1, 0), (9, 14, 10, 0, 0), (10, 60, 13, 156, 3), (13, 38, 16, 25, 0), (16, 0, 17, 0, 0), (17, 0, 18, 0, 0), (18, 49, 21, 12, 5), (21, 61, 24, 166, 210), (24, 62, 25, 2, 0)]
theorem ve_X12_readOne_0 : zget kd_X12_readOne 0 = vb_X12_readOne_0.map vq ++ vrest kd_X12_readOne (some 25) := rfl
def vb_X12_readOne_25 : List VE := [(25, 0, 26, 0, 0), (26, 0, 27, 0, 0), (27, 61, 30, 163, 209), (30, 8, 32, 48, 0), (32, 15, 33, 0, 0), (33, 50, 36, 12, 7), (36, 0, 37, 0, 0), (37, 33, 38, 0, 0), (38, 49, 41, 12, 5), (41, 7, 42, 1, 0), (42, 14, 43, 0, 0), (43, 50, 46, 12, 5), (46, 7, 47, 1, 0), (47, 62, 48, 2, 0)]
theorem ve_X12_readOne_25 : zget kd_X12_readOne 25 = vb_X12_readOne_25.map vq ++ vrest kd_X12_readOne (none) := rfl
def vb_X12_readMark_0 : List VE := [(0, 7, 1, 0, 0), (1, 3, 3, 4, 0)]
theorem ve_X12_readMark_0 : zget kd_X12_readMark 0 = vb_X12_readMark_0.map vq ++ vrest kd_X12_readMark (some 3) := rfl
def vb_X12_readMark_3 : List VE := [(3, 0, 4, 0, 0), (4, 61, 7, 163, 209), (7, 60, 10, 165, 1), (10, 38, 13, 26, 0), (13, 1, 14, 3, 0), (14, 37, 17, 71, 0), (17, 0, 18, 0, 0), (18, 61, 21, 163, 209), (21, 8, 23, 46, 0), (23, 44, 26, 71, 0)]
theorem ve_X12_readMark_3 : zget kd_X12_readMark 3 = vb_X12_readMark_3.map vq ++ vrest kd_X12_readMark (some 26) := rfl
def vb_X12_readMark_26 : List VE := [(26, 1, 28, 4, 0), (28, 8, 30, 8, 0), (30, 44, 33, 42, 0), (33, 0, 34, 0, 0), (34, 0, 35, 0, 0), (35, 49, 38, 12, 5), (38, 61, 41, 166, 210), (41, 62, 42, 2, 0)]
theorem ve_X12_readMark_26 : zget kd_X12_readMark 26 = vb_X12_readMark_26.map vq ++ vrest kd_X12_readMark (some 42) := rfl
def vb_X12_readMark_42 : List VE := [(42, 0, 43, 0, 0), (43, 49, 46, 12, 0), (46, 1, 47, 2, 0), (47, 1, 49, 4, 0), (49, 14, 50, 0, 0), (50, 0, 51, 0, 0), (51, 61, 54, 163, 209), (54, 52, 55, 0, 0), (55, 6, 58, 4, 1), (58, 0, 59, 0, 0), (59, 33, 60, 0, 0), (60, 49, 63, 12, 5), (63, 7, 64, 1, 0), (64, 14, 65, 0, 0), (65, 50, 68, 12, 5), (68, 36, 71, 3, 0)]
theorem ve_X12_readMark_42 : zget kd_X12_readMark 42 = vb_X12_readMark_42.map vq ++ vrest kd_X12_readMark (some 71) := rfl
def vb_X12_readMark_71 : List VE := [(71, 0, 72, 0, 0), (72, 49, 75, 12, 0), (75, 1, 76, 1, 0), (76, 1, 78, 4, 0), (78, 52, 79, 0, 0), (79, 1, 81, 4, 0), (81, 41, 84, 95, 0), (84, 0, 85, 0, 0), (85, 0, 86, 0, 0), (86, 49, 89, 12, 5), (89, 61, 92, 166, 210), (92, 37, 95, 99, 0)]
theorem ve_X12_readMark_71 : zget kd_X12_readMark 71 = vb_X12_readMark_71.map vq ++ vrest kd_X12_readMark (some 95) := rfl
def vb_X12_readMark_95 : List VE := [(95, 7, 96, 1, 0), (96, 36, 99, 100, 0)]
theorem ve_X12_readMark_95 : zget kd_X12_readMark 95 = vb_X12_readMark_95.map vq ++ vrest kd_X12_readMark (some 99) := rfl
def vb_X12_readMark_99 : List VE := [(99, 7, 100, 0, 0)]
theorem ve_X12_readMark_99 : zget kd_X12_readMark 99 = vb_X12_readMark_99.map vq ++ vrest kd_X12_readMark (some 100) := rfl
def vb_X12_readMark_100 : List VE := [(100, 62, 101, 2, 0)]
theorem ve_X12_readMark_100 : zget kd_X12_readMark 100 = vb_X12_readMark_100.map vq ++ vrest kd_X12_readMark (none) := rfl
def vb_X12_isLike_0 : List VE := [(0, 7, 1, 0, 0), (1, 3, 2, 3, 0)]
theorem ve_X12_isLike_0 : zget kd_X12_isLike 0 = vb_X12_isLike_0.map vq ++ vrest kd_X12_isLike (some 2) := rfl
def vb_X12_isLike_2 : List VE := [(2, 1, 3, 3, 0), (3, 0, 4, 0, 0), (4, 49, 7, 12, 0), (7, 7, 8, 1, 0), (8, 51, 9, 0, 0), (9, 46, 12, 72, 0), (12, 0, 13, 0, 0), (13, 49, 16, 12, 0), (16, 8, 18, 76, 0), (18, 7, 19, 2, 0), (19, 1, 20, 3, 0), (20, 16, 21, 0, 0), (21, 14, 22, 0, 0), (22, 51, 23, 0, 0), (23, 3, 25, 4, 0), (25, 0, 26, 0, 0), (26, 49, 29, 12, 0), (29, 8, 31, 76, 0), (31, 7, 32, 2, 0), (32, 1, 33, 3, 0), (33, 16, 34, 0, 0), (34, 14, 35, 0, 0), (35, 7, 36, 1, 0), (36, 14, 37, 0, 0), (37, 51, 38, 0, 0), (38, 3, 40, 5, 0), (40, 1, 42, 4, 0), (42, 1, 43, 1, 0), (43, 44, 46, 52, 0), (46, 1, 48, 5, 0), (48, 1, 49, 2, 0), (49, 43, 52, 64, 0)]
theorem ve_X12_isLike_2 : zget kd_X12_isLike 2 = vb_X12_isLike_2.map vq ++ vrest kd_X12_isLike (some 52) := rfl
def vb_X12_isLike_52 : List VE := [(52, 1, 54, 4, 0), (54, 1, 55, 2, 0), (55, 44, 58, 66, 0), (58, 1, 60, 5, 0), (60, 1, 61, 1, 0), (61, 44, 64, 66, 0)]
theorem ve_X12_isLike_52 : zget kd_X12_isLike 52 = vb_X12_isLike_52.map vq ++ vrest kd_X12_isLike (some 64) := rfl
def vb_X12_isLike_64 : List VE := [(64, 7, 65, 1, 0), (65, 62, 66, 2, 0)]
theorem ve_X12_isLike_64 : zget kd_X12_isLike 64 = vb_X12_isLike_64.map vq ++ vrest kd_X12_isLike (some 66) := rfl
def vb_X12_isLike_66 : List VE := [(66, 6, 69, 3, 1), (69, 36, 72, 2, 0)]
theorem ve_X12_isLike_66 : zget kd_X12_isLike 66 = vb_X12_isLike_66.map vq ++ vrest kd_X12_isLike (some 72) := rfl
def vb_X12_isLike_72 : List VE := [(72, 7, 73, 0, 0), (73, 62, 74, 2, 0)]
theorem ve_X12_isLike_72 : zget kd_X12_isLike 72 = vb_X12_isLike_72.map vq ++ vrest kd_X12_isLike (none) := rfl
def vb_X12_billAt_0 : List VE := [(0, 8, 2, 92, 0), (2, 8, 4, 26, 0), (4, 1, 5, 0, 0), (5, 16, 6, 0, 0), (6, 14, 7, 0, 0), (7, 62, 8, 0, 0)]
theorem ve_X12_billAt_0 : zget kd_X12_billAt 0 = vb_X12_billAt_0.map vq ++ vrest kd_X12_billAt (none) := rfl
def vb_X12_lineAt_0 : List VE := [(0, 9, 3, 404, 0), (3, 8, 5, 12, 0), (5, 1, 6, 0, 0), (6, 16, 7, 0, 0), (7, 14, 8, 0, 0), (8, 62, 9, 0, 0)]
theorem ve_X12_lineAt_0 : zget kd_X12_lineAt 0 = vb_X12_lineAt_0.map vq ++ vrest kd_X12_lineAt (none) := rfl
def vb_X12_isSame_0 : List VE := [(0, 0, 1, 0, 0), (1, 49, 4, 12, 0), (4, 1, 5, 1, 0), (5, 51, 6, 0, 0), (6, 0, 7, 0, 0), (7, 49, 10, 12, 0), (10, 1, 11, 3, 0), (11, 51, 12, 0, 0), (12, 43, 15, 17, 0), (15, 7, 16, 0, 0), (16, 62, 17, 2, 0)]
theorem ve_X12_isSame_0 : zget kd_X12_isSame 0 = vb_X12_isSame_0.map vq ++ vrest kd_X12_isSame (some 17) := rfl
def vb_X12_isSame_17 : List VE := [(17, 7, 18, 0, 0), (18, 3, 20, 5, 0)]
theorem ve_X12_isSame_17 : zget kd_X12_isSame 17 = vb_X12_isSame_17.map vq ++ vrest kd_X12_isSame (some 20) := rfl
def vb_X12_isSame_20 : List VE := [(20, 1, 22, 5, 0), (22, 0, 23, 0, 0), (23, 49, 26, 12, 0), (26, 1, 27, 1, 0), (27, 51, 28, 0, 0), (28, 46, 31, 61, 0), (31, 0, 32, 0, 0), (32, 49, 35, 12, 0), (35, 1, 36, 2, 0), (36, 1, 38, 5, 0), (38, 14, 39, 0, 0), (39, 51, 40, 0, 0), (40, 0, 41, 0, 0), (41, 49, 44, 12, 0), (44, 1, 46, 4, 0), (46, 1, 48, 5, 0), (48, 14, 49, 0, 0), (49, 51, 50, 0, 0), (50, 43, 53, 55, 0), (53, 7, 54, 0, 0), (54, 62, 55, 2, 0)]
theorem ve_X12_isSame_20 : zget kd_X12_isSame 20 = vb_X12_isSame_20.map vq ++ vrest kd_X12_isSame (some 55) := rfl
def vb_X12_isSame_55 : List VE := [(55, 6, 58, 5, 1), (58, 36, 61, 20, 0)]
theorem ve_X12_isSame_55 : zget kd_X12_isSame 55 = vb_X12_isSame_55.map vq ++ vrest kd_X12_isSame (some 61) := rfl
def vb_X12_isSame_61 : List VE := [(61, 7, 62, 1, 0), (62, 62, 63, 2, 0)]
theorem ve_X12_isSame_61 : zget kd_X12_isSame 61 = vb_X12_isSame_61.map vq ++ vrest kd_X12_isSame (none) := rfl
def vb_X12_readBill_0 : List VE := [(0, 0, 1, 0, 0), (1, 49, 4, 12, 0), (4, 7, 5, 0, 0), (5, 51, 6, 0, 0), (6, 3, 7, 2, 0), (7, 1, 8, 2, 0), (8, 8, 10, 12, 0), (10, 44, 13, 19, 0), (13, 0, 14, 0, 0), (14, 1, 15, 1, 0), (15, 61, 18, 166, 210), (18, 62, 19, 2, 0)]
theorem ve_X12_readBill_0 : zget kd_X12_readBill 0 = vb_X12_readBill_0.map vq ++ vrest kd_X12_readBill (some 19) := rfl
def vb_X12_readBill_19 : List VE := [(19, 0, 20, 0, 0), (20, 33, 21, 0, 0), (21, 49, 24, 12, 5), (24, 7, 25, 1, 0), (25, 14, 26, 0, 0), (26, 50, 29, 12, 5), (29, 1, 30, 2, 0), (30, 60, 33, 174, 1), (33, 3, 34, 3, 0), (34, 0, 35, 0, 0), (35, 49, 38, 12, 5), (38, 3, 40, 4, 0), (40, 7, 41, 0, 0), (41, 3, 43, 5, 0)]
theorem ve_X12_readBill_19 : zget kd_X12_readBill 19 = vb_X12_readBill_19.map vq ++ vrest kd_X12_readBill (some 43) := rfl
def vb_X12_readBill_43 : List VE := [(43, 1, 45, 5, 0), (45, 8, 47, 26, 0), (47, 46, 50, 66, 0), (50, 0, 51, 0, 0), (51, 49, 54, 12, 0), (54, 1, 55, 3, 0), (55, 1, 57, 5, 0), (57, 14, 58, 0, 0), (58, 7, 59, 0, 0), (59, 52, 60, 0, 0), (60, 6, 63, 5, 1), (63, 36, 66, 43, 0)]
theorem ve_X12_readBill_43 : zget kd_X12_readBill 43 = vb_X12_readBill_43.map vq ++ vrest kd_X12_readBill (some 66) := rfl
def vb_X12_readBill_66 : List VE := [(66, 0, 67, 0, 0), (67, 1, 68, 3, 0), (68, 7, 69, 0, 0), (69, 14, 70, 0, 0), (70, 1, 71, 3, 0), (71, 7, 72, 1, 0), (72, 14, 73, 0, 0), (73, 7, 74, 0, 0), (74, 61, 77, 172, 212), (77, 38, 80, 82, 0), (80, 7, 81, 0, 0), (81, 62, 82, 2, 0)]
theorem ve_X12_readBill_66 : zget kd_X12_readBill 66 = vb_X12_readBill_66.map vq ++ vrest kd_X12_readBill (some 82) := rfl
def vb_X12_readBill_82 : List VE := [(82, 7, 83, 0, 0), (83, 3, 85, 5, 0)]
theorem ve_X12_readBill_82 : zget kd_X12_readBill 82 = vb_X12_readBill_82.map vq ++ vrest kd_X12_readBill (some 85) := rfl
def vb_X12_readBill_85 : List VE := [(85, 1, 87, 5, 0), (87, 1, 88, 2, 0), (88, 46, 91, 131, 0), (91, 0, 92, 0, 0), (92, 1, 93, 3, 0), (93, 7, 94, 0, 0), (94, 14, 95, 0, 0), (95, 1, 96, 3, 0), (96, 7, 97, 1, 0), (97, 14, 98, 0, 0), (98, 1, 100, 5, 0), (100, 60, 103, 174, 1), (103, 7, 104, 0, 0), (104, 14, 105, 0, 0), (105, 1, 107, 5, 0), (107, 60, 110, 174, 1), (110, 7, 111, 1, 0), (111, 14, 112, 0, 0), (112, 61, 115, 176, 213), (115, 37, 118, 125, 0), (118, 0, 119, 0, 0), (119, 1, 121, 4, 0), (121, 61, 124, 166, 210), (124, 62, 125, 2, 0)]
theorem ve_X12_readBill_85 : zget kd_X12_readBill 85 = vb_X12_readBill_85.map vq ++ vrest kd_X12_readBill (some 125) := rfl
def vb_X12_readBill_125 : List VE := [(125, 6, 128, 5, 1), (128, 36, 131, 85, 0)]
theorem ve_X12_readBill_125 : zget kd_X12_readBill 125 = vb_X12_readBill_125.map vq ++ vrest kd_X12_readBill (some 131) := rfl
def vb_X12_readBill_131 : List VE := [(131, 0, 132, 0, 0), (132, 8, 134, 58, 0), (134, 61, 137, 167, 210), (137, 37, 140, 148, 0), (140, 0, 141, 0, 0), (141, 7, 142, 3, 0), (142, 61, 145, 170, 210), (145, 38, 148, 150, 0)]
theorem ve_X12_readBill_131 : zget kd_X12_readBill 131 = vb_X12_readBill_131.map vq ++ vrest kd_X12_readBill (some 148) := rfl
def vb_X12_readBill_148 : List VE := [(148, 7, 149, 0, 0), (149, 62, 150, 2, 0)]
theorem ve_X12_readBill_148 : zget kd_X12_readBill 148 = vb_X12_readBill_148.map vq ++ vrest kd_X12_readBill (some 150) := rfl
def vb_X12_readBill_150 : List VE := [(150, 0, 151, 0, 0), (151, 49, 154, 12, 0), (154, 1, 155, 3, 0), (155, 8, 157, 9, 0), (157, 14, 158, 0, 0), (158, 0, 159, 0, 0), (159, 49, 162, 12, 7), (162, 52, 163, 0, 0), (163, 0, 164, 0, 0), (164, 8, 166, 42, 0), (166, 61, 169, 167, 210), (169, 37, 172, 180, 0), (172, 0, 173, 0, 0), (173, 7, 174, 4, 0), (174, 61, 177, 170, 210), (177, 38, 180, 182, 0)]
theorem ve_X12_readBill_150 : zget kd_X12_readBill 150 = vb_X12_readBill_150.map vq ++ vrest kd_X12_readBill (some 180) := rfl
def vb_X12_readBill_180 : List VE := [(180, 7, 181, 0, 0), (181, 62, 182, 2, 0)]
theorem ve_X12_readBill_180 : zget kd_X12_readBill 180 = vb_X12_readBill_180.map vq ++ vrest kd_X12_readBill (some 182) := rfl
def vb_X12_readBill_182 : List VE := [(182, 0, 183, 0, 0), (183, 49, 186, 12, 0), (186, 1, 187, 3, 0), (187, 8, 189, 10, 0), (189, 14, 190, 0, 0), (190, 0, 191, 0, 0), (191, 49, 194, 12, 7), (194, 52, 195, 0, 0), (195, 0, 196, 0, 0), (196, 49, 199, 12, 0), (199, 7, 200, 0, 0), (200, 1, 201, 2, 0), (201, 7, 202, 1, 0), (202, 14, 203, 0, 0), (203, 52, 204, 0, 0), (204, 0, 205, 0, 0), (205, 8, 207, 59, 0), (207, 61, 210, 167, 210), (210, 62, 211, 2, 0)]
theorem ve_X12_readBill_182 : zget kd_X12_readBill 182 = vb_X12_readBill_182.map vq ++ vrest kd_X12_readBill (none) := rfl
def vb_X12_readCouple_0 : List VE := [(0, 0, 1, 0, 0), (1, 49, 4, 12, 0), (4, 7, 5, 1, 0), (5, 51, 6, 0, 0), (6, 3, 7, 2, 0), (7, 1, 8, 2, 0), (8, 8, 10, 8, 0), (10, 44, 13, 19, 0), (13, 0, 14, 0, 0), (14, 1, 15, 1, 0), (15, 61, 18, 166, 210), (18, 62, 19, 2, 0)]
theorem ve_X12_readCouple_0 : zget kd_X12_readCouple 0 = vb_X12_readCouple_0.map vq ++ vrest kd_X12_readCouple (some 19) := rfl
def vb_X12_readCouple_19 : List VE := [(19, 0, 20, 0, 0), (20, 33, 21, 0, 0), (21, 49, 24, 12, 5), (24, 7, 25, 1, 0), (25, 14, 26, 0, 0), (26, 50, 29, 12, 5), (29, 0, 30, 0, 0), (30, 61, 33, 163, 209), (33, 3, 34, 3, 0), (34, 1, 35, 3, 0), (35, 60, 38, 165, 1), (38, 38, 41, 50, 0), (41, 0, 42, 0, 0), (42, 0, 43, 0, 0), (43, 49, 46, 12, 5), (46, 61, 49, 166, 210), (49, 62, 50, 2, 0)]
theorem ve_X12_readCouple_19 : zget kd_X12_readCouple 19 = vb_X12_readCouple_19.map vq ++ vrest kd_X12_readCouple (some 50) := rfl
def vb_X12_readCouple_50 : List VE := [(50, 0, 51, 0, 0), (51, 33, 52, 0, 0), (52, 49, 55, 12, 5), (55, 7, 56, 1, 0), (56, 14, 57, 0, 0), (57, 50, 60, 12, 5), (60, 0, 61, 0, 0), (61, 61, 64, 163, 209), (64, 3, 66, 4, 0), (66, 1, 68, 4, 0), (68, 60, 71, 165, 1), (71, 38, 74, 83, 0), (74, 0, 75, 0, 0), (75, 0, 76, 0, 0), (76, 49, 79, 12, 5), (79, 61, 82, 166, 210), (82, 62, 83, 2, 0)]
theorem ve_X12_readCouple_50 : zget kd_X12_readCouple 50 = vb_X12_readCouple_50.map vq ++ vrest kd_X12_readCouple (some 83) := rfl
def vb_X12_readCouple_83 : List VE := [(83, 0, 84, 0, 0), (84, 33, 85, 0, 0), (85, 49, 88, 12, 5), (88, 7, 89, 1, 0), (89, 14, 90, 0, 0), (90, 50, 93, 12, 5), (93, 1, 94, 3, 0), (94, 1, 96, 4, 0), (96, 43, 99, 109, 0), (99, 0, 100, 0, 0), (100, 1, 101, 3, 0), (101, 1, 103, 4, 0), (103, 61, 106, 173, 211), (106, 37, 109, 120, 0)]
theorem ve_X12_readCouple_83 : zget kd_X12_readCouple 83 = vb_X12_readCouple_83.map vq ++ vrest kd_X12_readCouple (some 109) := rfl
def vb_X12_readCouple_109 : List VE := [(109, 0, 110, 0, 0), (110, 0, 111, 0, 0), (111, 49, 114, 12, 5), (114, 7, 115, 2, 0), (115, 15, 116, 0, 0), (116, 61, 119, 166, 210), (119, 62, 120, 2, 0)]
theorem ve_X12_readCouple_109 : zget kd_X12_readCouple 109 = vb_X12_readCouple_109.map vq ++ vrest kd_X12_readCouple (some 120) := rfl
def vb_X12_readCouple_120 : List VE := [(120, 0, 121, 0, 0), (121, 49, 124, 12, 0), (124, 8, 126, 76, 0), (126, 7, 127, 2, 0), (127, 1, 128, 2, 0), (128, 16, 129, 0, 0), (129, 14, 130, 0, 0), (130, 1, 131, 3, 0), (131, 52, 132, 0, 0), (132, 0, 133, 0, 0), (133, 49, 136, 12, 0), (136, 8, 138, 76, 0), (138, 7, 139, 2, 0), (139, 1, 140, 2, 0), (140, 16, 141, 0, 0), (141, 14, 142, 0, 0), (142, 7, 143, 1, 0), (143, 14, 144, 0, 0), (144, 1, 146, 4, 0), (146, 52, 147, 0, 0), (147, 0, 148, 0, 0), (148, 49, 151, 12, 0), (151, 7, 152, 1, 0), (152, 1, 153, 2, 0), (153, 7, 154, 1, 0), (154, 14, 155, 0, 0), (155, 52, 156, 0, 0), (156, 0, 157, 0, 0), (157, 8, 159, 59, 0), (159, 61, 162, 167, 210), (162, 62, 163, 2, 0)]
theorem ve_X12_readCouple_120 : zget kd_X12_readCouple 120 = vb_X12_readCouple_120.map vq ++ vrest kd_X12_readCouple (none) := rfl
def vb_X12_readLine_0 : List VE := [(0, 0, 1, 0, 0), (1, 49, 4, 12, 0), (4, 7, 5, 2, 0), (5, 51, 6, 0, 0), (6, 3, 7, 2, 0), (7, 1, 8, 2, 0), (8, 8, 10, 60, 0), (10, 44, 13, 19, 0), (13, 0, 14, 0, 0), (14, 1, 15, 1, 0), (15, 61, 18, 166, 210), (18, 62, 19, 2, 0)]
theorem ve_X12_readLine_0 : zget kd_X12_readLine 0 = vb_X12_readLine_0.map vq ++ vrest kd_X12_readLine (some 19) := rfl
def vb_X12_readLine_19 : List VE := [(19, 0, 20, 0, 0), (20, 33, 21, 0, 0), (21, 49, 24, 12, 5), (24, 7, 25, 1, 0), (25, 14, 26, 0, 0), (26, 50, 29, 12, 5), (29, 1, 30, 2, 0), (30, 60, 33, 175, 1), (33, 3, 34, 3, 0), (34, 0, 35, 0, 0), (35, 7, 36, 1, 0), (36, 61, 39, 171, 210), (39, 38, 42, 44, 0), (42, 7, 43, 0, 0), (43, 62, 44, 2, 0)]
theorem ve_X12_readLine_19 : zget kd_X12_readLine 19 = vb_X12_readLine_19.map vq ++ vrest kd_X12_readLine (some 44) := rfl
def vb_X12_readLine_44 : List VE := [(44, 0, 45, 0, 0), (45, 49, 48, 12, 0), (48, 1, 49, 3, 0), (49, 7, 50, 0, 0), (50, 14, 51, 0, 0), (51, 0, 52, 0, 0), (52, 49, 55, 12, 7), (55, 52, 56, 0, 0), (56, 0, 57, 0, 0), (57, 8, 59, 64, 0), (59, 61, 62, 167, 210), (62, 37, 65, 73, 0), (65, 0, 66, 0, 0), (66, 7, 67, 4, 0), (67, 61, 70, 171, 210), (70, 38, 73, 75, 0)]
theorem ve_X12_readLine_44 : zget kd_X12_readLine 44 = vb_X12_readLine_44.map vq ++ vrest kd_X12_readLine (some 73) := rfl
def vb_X12_readLine_73 : List VE := [(73, 7, 74, 0, 0), (74, 62, 75, 2, 0)]
theorem ve_X12_readLine_73 : zget kd_X12_readLine 73 = vb_X12_readLine_73.map vq ++ vrest kd_X12_readLine (some 75) := rfl
def vb_X12_readLine_75 : List VE := [(75, 0, 76, 0, 0), (76, 49, 79, 12, 0), (79, 1, 80, 3, 0), (80, 7, 81, 1, 0), (81, 14, 82, 0, 0), (82, 0, 83, 0, 0), (83, 49, 86, 12, 7), (86, 52, 87, 0, 0), (87, 0, 88, 0, 0), (88, 8, 90, 58, 0), (90, 61, 93, 167, 210), (93, 37, 96, 127, 0), (96, 0, 97, 0, 0), (97, 1, 98, 3, 0), (98, 7, 99, 3, 0), (99, 14, 100, 0, 0), (100, 1, 101, 3, 0), (101, 7, 102, 4, 0), (102, 14, 103, 0, 0), (103, 7, 104, 1, 0), (104, 61, 107, 172, 212), (107, 37, 110, 127, 0), (110, 0, 111, 0, 0), (111, 8, 113, 35, 0), (113, 61, 116, 167, 210), (116, 37, 119, 127, 0), (119, 0, 120, 0, 0), (120, 7, 121, 3, 0), (121, 61, 124, 170, 210), (124, 38, 127, 129, 0)]
theorem ve_X12_readLine_75 : zget kd_X12_readLine 75 = vb_X12_readLine_75.map vq ++ vrest kd_X12_readLine (some 127) := rfl
def vb_X12_readLine_127 : List VE := [(127, 7, 128, 0, 0), (128, 62, 129, 2, 0)]
theorem ve_X12_readLine_127 : zget kd_X12_readLine 127 = vb_X12_readLine_127.map vq ++ vrest kd_X12_readLine (some 129) := rfl
def vb_X12_readLine_129 : List VE := [(129, 0, 130, 0, 0), (130, 49, 133, 12, 0), (133, 1, 134, 3, 0), (134, 7, 135, 2, 0), (135, 14, 136, 0, 0), (136, 0, 137, 0, 0), (137, 49, 140, 12, 7), (140, 52, 141, 0, 0), (141, 0, 142, 0, 0), (142, 49, 145, 12, 0), (145, 7, 146, 2, 0), (146, 1, 147, 2, 0), (147, 7, 148, 1, 0), (148, 14, 149, 0, 0), (149, 52, 150, 0, 0), (150, 0, 151, 0, 0), (151, 8, 153, 59, 0), (153, 61, 156, 167, 210), (156, 62, 157, 2, 0)]
theorem ve_X12_readLine_129 : zget kd_X12_readLine 129 = vb_X12_readLine_129.map vq ++ vrest kd_X12_readLine (none) := rfl
def vb_X12_readText_0 : List VE := [(0, 0, 1, 0, 0), (1, 7, 2, 0, 0), (2, 50, 5, 12, 5), (5, 0, 6, 0, 0), (6, 7, 7, 4294967295, 0), (7, 50, 10, 12, 6)]
theorem ve_X12_readText_0 : zget kd_X12_readText 0 = vb_X12_readText_0.map vq ++ vrest kd_X12_readText (some 10) := rfl
def vb_X12_readText_10 : List VE := [(10, 0, 11, 0, 0), (11, 49, 14, 12, 5), (14, 0, 15, 0, 0), (15, 49, 18, 12, 4), (18, 46, 21, 95, 0), (21, 0, 22, 0, 0), (22, 61, 25, 163, 209), (25, 3, 26, 1, 0), (26, 1, 27, 1, 0), (27, 8, 29, 98, 0), (29, 44, 32, 43, 0), (32, 0, 33, 0, 0), (33, 0, 34, 0, 0), (34, 49, 37, 12, 5), (37, 61, 40, 177, 210), (40, 36, 43, 85, 0)]
theorem ve_X12_readText_10 : zget kd_X12_readText 10 = vb_X12_readText_10.map vq ++ vrest kd_X12_readText (some 43) := rfl
def vb_X12_readText_43 : List VE := [(43, 1, 44, 1, 0), (44, 8, 46, 126, 0), (46, 44, 49, 60, 0), (49, 0, 50, 0, 0), (50, 0, 51, 0, 0), (51, 49, 54, 12, 5), (54, 61, 57, 178, 210), (57, 36, 60, 85, 0)]
theorem ve_X12_readText_43 : zget kd_X12_readText 43 = vb_X12_readText_43.map vq ++ vrest kd_X12_readText (some 60) := rfl
def vb_X12_readText_60 : List VE := [(60, 1, 61, 1, 0), (61, 8, 63, 116, 0), (63, 44, 66, 77, 0), (66, 0, 67, 0, 0), (67, 0, 68, 0, 0), (68, 49, 71, 12, 5), (71, 61, 74, 179, 210), (74, 36, 77, 85, 0)]
theorem ve_X12_readText_60 : zget kd_X12_readText 60 = vb_X12_readText_60.map vq ++ vrest kd_X12_readText (some 77) := rfl
def vb_X12_readText_77 : List VE := [(77, 0, 78, 0, 0), (78, 0, 79, 0, 0), (79, 49, 82, 12, 5), (82, 61, 85, 166, 210)]
theorem ve_X12_readText_77 : zget kd_X12_readText 77 = vb_X12_readText_77.map vq ++ vrest kd_X12_readText (some 85) := rfl
def vb_X12_readText_85 : List VE := [(85, 3, 86, 2, 0), (86, 1, 87, 2, 0), (87, 38, 90, 92, 0), (90, 7, 91, 0, 0), (91, 62, 92, 2, 0)]
theorem ve_X12_readText_85 : zget kd_X12_readText 85 = vb_X12_readText_85.map vq ++ vrest kd_X12_readText (some 92) := rfl
def vb_X12_readText_92 : List VE := [(92, 36, 95, 10, 0)]
theorem ve_X12_readText_92 : zget kd_X12_readText 92 = vb_X12_readText_92.map vq ++ vrest kd_X12_readText (some 95) := rfl
def vb_X12_readText_95 : List VE := [(95, 7, 96, 1, 0), (96, 62, 97, 2, 0)]
theorem ve_X12_readText_95 : zget kd_X12_readText 95 = vb_X12_readText_95.map vq ++ vrest kd_X12_readText (none) := rfl
def vb_X12_countItems_0 : List VE := [(0, 0, 1, 0, 0), (1, 49, 4, 12, 0), (4, 7, 5, 0, 0), (5, 51, 6, 0, 0), (6, 0, 7, 0, 0), (7, 49, 10, 12, 0), (10, 7, 11, 1, 0), (11, 51, 12, 0, 0), (12, 14, 13, 0, 0), (13, 0, 14, 0, 0), (14, 49, 17, 12, 0), (17, 7, 18, 2, 0), (18, 51, 19, 0, 0), (19, 14, 20, 0, 0), (20, 62, 21, 0, 0)]
theorem ve_X12_countItems_0 : zget kd_X12_countItems 0 = vb_X12_countItems_0.map vq ++ vrest kd_X12_countItems (none) := rfl
def vb_X12_text_0 : List VE := [(0, 0, 1, 0, 0), (1, 61, 4, 181, 209), (4, 3, 5, 1, 0), (5, 7, 6, 0, 0), (6, 3, 7, 2, 0)]
theorem ve_X12_text_0 : zget kd_X12_text 0 = vb_X12_text_0.map vq ++ vrest kd_X12_text (some 7) := rfl
def vb_X12_text_7 : List VE := [(7, 1, 8, 2, 0), (8, 9, 11, 1124, 0), (11, 46, 14, 32, 0), (14, 0, 15, 0, 0), (15, 49, 18, 12, 8), (18, 1, 19, 2, 0), (19, 0, 20, 0, 0), (20, 49, 23, 12, 0), (23, 1, 24, 2, 0), (24, 51, 25, 0, 0), (25, 52, 26, 0, 0), (26, 6, 29, 2, 1), (29, 36, 32, 7, 0)]
theorem ve_X12_text_7 : zget kd_X12_text 7 = vb_X12_text_7.map vq ++ vrest kd_X12_text (some 32) := rfl
def vb_X12_text_32 : List VE := [(32, 0, 33, 0, 0), (33, 61, 36, 180, 209), (36, 3, 37, 2, 0), (37, 0, 38, 0, 0), (38, 7, 39, 0, 0), (39, 50, 42, 12, 4), (42, 0, 43, 0, 0), (43, 61, 46, 181, 209), (46, 1, 47, 1, 0), (47, 15, 48, 0, 0), (48, 3, 49, 3, 0), (49, 7, 50, 0, 0), (50, 3, 52, 4, 0)]
theorem ve_X12_text_32 : zget kd_X12_text 32 = vb_X12_text_32.map vq ++ vrest kd_X12_text (some 52) := rfl
def vb_X12_text_52 : List VE := [(52, 1, 54, 4, 0), (54, 9, 57, 1124, 0), (57, 46, 60, 98, 0), (60, 0, 61, 0, 0), (61, 49, 64, 12, 0), (64, 1, 66, 4, 0), (66, 51, 67, 0, 0), (67, 3, 69, 5, 0), (69, 0, 70, 0, 0), (70, 49, 73, 12, 0), (73, 1, 75, 4, 0), (75, 0, 76, 0, 0), (76, 49, 79, 12, 8), (79, 1, 81, 4, 0), (81, 51, 82, 0, 0), (82, 52, 83, 0, 0), (83, 0, 84, 0, 0), (84, 49, 87, 12, 8), (87, 1, 89, 4, 0), (89, 1, 91, 5, 0), (91, 52, 92, 0, 0), (92, 6, 95, 4, 1), (95, 36, 98, 52, 0)]
theorem ve_X12_text_52 : zget kd_X12_text 52 = vb_X12_text_52.map vq ++ vrest kd_X12_text (some 98) := rfl
def vb_X12_text_98 : List VE := [(98, 1, 99, 2, 0), (99, 38, 102, 104, 0), (102, 7, 103, 4294967295, 0), (103, 62, 104, 0, 0)]
theorem ve_X12_text_98 : zget kd_X12_text 98 = vb_X12_text_98.map vq ++ vrest kd_X12_text (some 104) := rfl
def vb_X12_text_104 : List VE := [(104, 0, 105, 0, 0), (105, 61, 108, 158, 209), (108, 7, 109, 0, 0), (109, 3, 111, 4, 0)]
theorem ve_X12_text_104 : zget kd_X12_text 104 = vb_X12_text_104.map vq ++ vrest kd_X12_text (some 111) := rfl
def vb_X12_text_111 : List VE := [(111, 1, 113, 4, 0), (113, 9, 116, 1124, 0), (116, 46, 119, 139, 0), (119, 0, 120, 0, 0), (120, 49, 123, 12, 0), (123, 1, 125, 4, 0), (125, 0, 126, 0, 0), (126, 49, 129, 12, 8), (129, 1, 131, 4, 0), (131, 51, 132, 0, 0), (132, 52, 133, 0, 0), (133, 6, 136, 4, 1), (136, 36, 139, 111, 0)]
theorem ve_X12_text_111 : zget kd_X12_text 111 = vb_X12_text_111.map vq ++ vrest kd_X12_text (some 139) := rfl
def vb_X12_text_139 : List VE := [(139, 1, 140, 3, 0), (140, 62, 141, 0, 0)]
theorem ve_X12_text_139 : zget kd_X12_text 139 = vb_X12_text_139.map vq ++ vrest kd_X12_text (none) := rfl
def vb_X12_does_0 : List VE := [(0, 0, 1, 0, 0), (1, 49, 4, 12, 9), (4, 0, 5, 0, 0), (5, 49, 8, 12, 10), (8, 1, 9, 1, 0), (9, 52, 10, 0, 0), (10, 0, 11, 0, 0), (11, 33, 12, 0, 0), (12, 49, 15, 12, 10), (15, 7, 16, 1, 0), (16, 14, 17, 0, 0), (17, 50, 20, 12, 10), (20, 65, 21, 0, 0)]
theorem ve_X12_does_0 : zget kd_X12_does 0 = vb_X12_does_0.map vq ++ vrest kd_X12_does (none) := rfl
def vb_X12_nameOf_0 : List VE := [(0, 1, 1, 0, 0), (1, 8, 3, 115, 0), (3, 44, 6, 10, 0), (6, 7, 7, 0, 0), (7, 36, 10, 31, 0)]
theorem ve_X12_nameOf_0 : zget kd_X12_nameOf 0 = vb_X12_nameOf_0.map vq ++ vrest kd_X12_nameOf (some 10) := rfl
def vb_X12_nameOf_10 : List VE := [(10, 1, 11, 0, 0), (11, 8, 13, 111, 0), (13, 44, 16, 20, 0), (16, 7, 17, 1, 0), (17, 36, 20, 31, 0)]
theorem ve_X12_nameOf_10 : zget kd_X12_nameOf 10 = vb_X12_nameOf_10.map vq ++ vrest kd_X12_nameOf (some 20) := rfl
def vb_X12_nameOf_20 : List VE := [(20, 1, 21, 0, 0), (21, 8, 23, 99, 0), (23, 44, 26, 30, 0), (26, 7, 27, 2, 0), (27, 36, 30, 31, 0)]
theorem ve_X12_nameOf_20 : zget kd_X12_nameOf 20 = vb_X12_nameOf_20.map vq ++ vrest kd_X12_nameOf (some 30) := rfl
def vb_X12_nameOf_30 : List VE := [(30, 7, 31, 4294967295, 0)]
theorem ve_X12_nameOf_30 : zget kd_X12_nameOf 30 = vb_X12_nameOf_30.map vq ++ vrest kd_X12_nameOf (some 31) := rfl
def vb_X12_nameOf_31 : List VE := [(31, 62, 32, 0, 0)]
theorem ve_X12_nameOf_31 : zget kd_X12_nameOf 31 = vb_X12_nameOf_31.map vq ++ vrest kd_X12_nameOf (none) := rfl
def vb_X12_readThing_0 : List VE := [(0, 0, 1, 0, 0), (1, 61, 4, 163, 209), (4, 3, 5, 1, 0), (5, 1, 6, 1, 0), (6, 60, 9, 164, 1), (9, 38, 12, 26, 0), (12, 1, 13, 1, 0), (13, 60, 16, 184, 1), (16, 7, 17, 4294967295, 0), (17, 44, 20, 26, 0), (20, 1, 21, 1, 0), (21, 8, 23, 40, 0), (23, 44, 26, 30, 0)]
theorem ve_X12_readThing_0 : zget kd_X12_readThing 0 = vb_X12_readThing_0.map vq ++ vrest kd_X12_readThing (some 26) := rfl
def vb_X12_readThing_26 : List VE := [(26, 7, 27, 1, 0), (27, 36, 30, 31, 0)]
theorem ve_X12_readThing_26 : zget kd_X12_readThing 26 = vb_X12_readThing_26.map vq ++ vrest kd_X12_readThing (some 30) := rfl
def vb_X12_readThing_30 : List VE := [(30, 7, 31, 0, 0)]
theorem ve_X12_readThing_30 : zget kd_X12_readThing 30 = vb_X12_readThing_30.map vq ++ vrest kd_X12_readThing (some 31) := rfl
def vb_X12_readThing_31 : List VE := [(31, 3, 32, 2, 0), (32, 1, 33, 2, 0), (33, 37, 36, 54, 0), (36, 0, 37, 0, 0), (37, 49, 40, 12, 11), (40, 8, 42, 30, 0), (42, 43, 45, 54, 0), (45, 0, 46, 0, 0), (46, 49, 49, 12, 14), (49, 8, 51, 8, 0), (51, 44, 54, 64, 0)]
theorem ve_X12_readThing_31 : zget kd_X12_readThing 31 = vb_X12_readThing_31.map vq ++ vrest kd_X12_readThing (some 54) := rfl
def vb_X12_readThing_54 : List VE := [(54, 0, 55, 0, 0), (55, 0, 56, 0, 0), (56, 49, 59, 12, 5), (59, 50, 62, 12, 6), (62, 7, 63, 4294967295, 0), (63, 62, 64, 0, 0)]
theorem ve_X12_readThing_54 : zget kd_X12_readThing 54 = vb_X12_readThing_54.map vq ++ vrest kd_X12_readThing (some 64) := rfl
def vb_X12_readThing_64 : List VE := [(64, 0, 65, 0, 0), (65, 33, 66, 0, 0), (66, 49, 69, 12, 11), (69, 7, 70, 1, 0), (70, 14, 71, 0, 0), (71, 50, 74, 12, 11), (74, 1, 75, 1, 0), (75, 60, 78, 164, 1), (78, 37, 81, 101, 0), (81, 0, 82, 0, 0), (82, 7, 83, 4, 0), (83, 61, 86, 169, 210), (86, 38, 89, 91, 0), (89, 7, 90, 4294967295, 0), (90, 62, 91, 0, 0)]
theorem ve_X12_readThing_64 : zget kd_X12_readThing 64 = vb_X12_readThing_64.map vq ++ vrest kd_X12_readThing (some 91) := rfl
def vb_X12_readThing_91 : List VE := [(91, 0, 92, 0, 0), (92, 0, 93, 0, 0), (93, 49, 96, 12, 7), (96, 61, 99, 183, 210), (99, 7, 100, 1, 0), (100, 62, 101, 0, 0)]
theorem ve_X12_readThing_91 : zget kd_X12_readThing 91 = vb_X12_readThing_91.map vq ++ vrest kd_X12_readThing (some 101) := rfl
def vb_X12_readThing_101 : List VE := [(101, 0, 102, 0, 0), (102, 33, 103, 0, 0), (103, 49, 106, 12, 5), (106, 7, 107, 1, 0), (107, 14, 108, 0, 0), (108, 50, 111, 12, 5), (111, 1, 112, 1, 0), (112, 8, 114, 40, 0), (114, 43, 117, 131, 0), (117, 0, 118, 0, 0), (118, 9, 121, 10000, 0), (121, 1, 122, 1, 0), (122, 60, 125, 184, 1), (125, 14, 126, 0, 0), (126, 61, 129, 183, 210), (129, 7, 130, 1, 0), (130, 62, 131, 0, 0)]
theorem ve_X12_readThing_101 : zget kd_X12_readThing 101 = vb_X12_readThing_101.map vq ++ vrest kd_X12_readThing (some 131) := rfl
def vb_X12_readThing_131 : List VE := [(131, 0, 132, 0, 0), (132, 33, 133, 0, 0), (133, 49, 136, 12, 14), (136, 7, 137, 1, 0), (137, 14, 138, 0, 0), (138, 50, 141, 12, 14), (141, 0, 142, 0, 0), (142, 49, 145, 12, 12), (145, 0, 146, 0, 0), (146, 49, 149, 12, 14), (149, 7, 150, 0, 0), (150, 52, 151, 0, 0), (151, 0, 152, 0, 0), (152, 49, 155, 12, 13), (155, 0, 156, 0, 0), (156, 49, 159, 12, 14), (159, 7, 160, 0, 0), (160, 52, 161, 0, 0), (161, 7, 162, 0, 0), (162, 62, 163, 0, 0)]
theorem ve_X12_readThing_131 : zget kd_X12_readThing 131 = vb_X12_readThing_131.map vq ++ vrest kd_X12_readThing (none) := rfl
def vb_X12_isProductSign_0 : List VE := [(0, 0, 1, 0, 0), (1, 61, 4, 163, 209), (4, 8, 6, 42, 0), (6, 43, 9, 36, 0), (9, 0, 10, 0, 0), (10, 61, 13, 163, 209), (13, 8, 15, 47, 0), (15, 43, 18, 36, 0), (18, 0, 19, 0, 0), (19, 61, 22, 163, 209), (22, 8, 24, 60, 0), (24, 43, 27, 36, 0), (27, 0, 28, 0, 0), (28, 61, 31, 163, 209), (31, 8, 33, 62, 0), (33, 44, 36, 40, 0)]
theorem ve_X12_isProductSign_0 : zget kd_X12_isProductSign 0 = vb_X12_isProductSign_0.map vq ++ vrest kd_X12_isProductSign (some 36) := rfl
def vb_X12_isProductSign_36 : List VE := [(36, 7, 37, 1, 0), (37, 36, 40, 41, 0)]
theorem ve_X12_isProductSign_36 : zget kd_X12_isProductSign 36 = vb_X12_isProductSign_36.map vq ++ vrest kd_X12_isProductSign (some 40) := rfl
def vb_X12_isProductSign_40 : List VE := [(40, 7, 41, 0, 0)]
theorem ve_X12_isProductSign_40 : zget kd_X12_isProductSign 40 = vb_X12_isProductSign_40.map vq ++ vrest kd_X12_isProductSign (some 41) := rfl
def vb_X12_isProductSign_41 : List VE := [(41, 62, 42, 2, 0)]
theorem ve_X12_isProductSign_41 : zget kd_X12_isProductSign 41 = vb_X12_isProductSign_41.map vq ++ vrest kd_X12_isProductSign (none) := rfl
def vb_X12_goesOn_0 : List VE := [(0, 0, 1, 0, 0), (1, 49, 4, 12, 14), (4, 3, 5, 1, 0), (5, 0, 6, 0, 0), (6, 49, 9, 12, 13), (9, 1, 10, 1, 0), (10, 51, 11, 0, 0), (11, 37, 14, 28, 0), (14, 0, 15, 0, 0), (15, 9, 18, 11000, 0), (18, 0, 19, 0, 0), (19, 49, 22, 12, 13), (22, 1, 23, 1, 0), (23, 51, 24, 0, 0), (24, 14, 25, 0, 0), (25, 61, 28, 183, 210)]
theorem ve_X12_goesOn_0 : zget kd_X12_goesOn 0 = vb_X12_goesOn_0.map vq ++ vrest kd_X12_goesOn (some 28) := rfl
def vb_X12_goesOn_28 : List VE := [(28, 0, 29, 0, 0), (29, 49, 32, 12, 13), (32, 1, 33, 1, 0), (33, 7, 34, 0, 0), (34, 52, 35, 0, 0), (35, 0, 36, 0, 0), (36, 61, 39, 186, 209), (39, 37, 42, 64, 0), (42, 0, 43, 0, 0), (43, 49, 46, 12, 13), (46, 1, 47, 1, 0), (47, 0, 48, 0, 0), (48, 61, 51, 163, 209), (51, 52, 52, 0, 0), (52, 0, 53, 0, 0), (53, 33, 54, 0, 0), (54, 49, 57, 12, 5), (57, 7, 58, 1, 0), (58, 14, 59, 0, 0), (59, 50, 62, 12, 5), (62, 7, 63, 1, 0), (63, 62, 64, 2, 0)]
theorem ve_X12_goesOn_28 : zget kd_X12_goesOn 28 = vb_X12_goesOn_28.map vq ++ vrest kd_X12_goesOn (some 64) := rfl
def vb_X12_goesOn_64 : List VE := [(64, 0, 65, 0, 0), (65, 49, 68, 12, 12), (68, 1, 69, 1, 0), (69, 51, 70, 0, 0), (70, 37, 73, 87, 0), (73, 0, 74, 0, 0), (74, 9, 77, 11000, 0), (77, 0, 78, 0, 0), (78, 49, 81, 12, 12), (81, 1, 82, 1, 0), (82, 51, 83, 0, 0), (83, 14, 84, 0, 0), (84, 61, 87, 183, 210)]
theorem ve_X12_goesOn_64 : zget kd_X12_goesOn 64 = vb_X12_goesOn_64.map vq ++ vrest kd_X12_goesOn (some 87) := rfl
def vb_X12_goesOn_87 : List VE := [(87, 0, 88, 0, 0), (88, 49, 91, 12, 12), (91, 1, 92, 1, 0), (92, 7, 93, 0, 0), (93, 52, 94, 0, 0), (94, 0, 95, 0, 0), (95, 61, 98, 163, 209), (98, 8, 100, 43, 0), (100, 43, 103, 112, 0), (103, 0, 104, 0, 0), (104, 61, 107, 163, 209), (107, 8, 109, 45, 0), (109, 44, 112, 134, 0)]
theorem ve_X12_goesOn_87 : zget kd_X12_goesOn 87 = vb_X12_goesOn_87.map vq ++ vrest kd_X12_goesOn (some 112) := rfl
def vb_X12_goesOn_112 : List VE := [(112, 0, 113, 0, 0), (113, 49, 116, 12, 12), (116, 1, 117, 1, 0), (117, 0, 118, 0, 0), (118, 61, 121, 163, 209), (121, 52, 122, 0, 0), (122, 0, 123, 0, 0), (123, 33, 124, 0, 0), (124, 49, 127, 12, 5), (127, 7, 128, 1, 0), (128, 14, 129, 0, 0), (129, 50, 132, 12, 5), (132, 7, 133, 1, 0), (133, 62, 134, 2, 0)]
theorem ve_X12_goesOn_112 : zget kd_X12_goesOn 112 = vb_X12_goesOn_112.map vq ++ vrest kd_X12_goesOn (some 134) := rfl
def vb_X12_goesOn_134 : List VE := [(134, 1, 135, 1, 0), (135, 38, 138, 166, 0), (138, 0, 139, 0, 0), (139, 49, 142, 12, 5), (142, 0, 143, 0, 0), (143, 49, 146, 12, 4), (146, 46, 149, 164, 0), (149, 0, 150, 0, 0), (150, 0, 151, 0, 0), (151, 49, 154, 12, 5), (154, 61, 157, 166, 210), (157, 37, 160, 164, 0), (160, 7, 161, 1, 0), (161, 36, 164, 165, 0)]
theorem ve_X12_goesOn_134 : zget kd_X12_goesOn 134 = vb_X12_goesOn_134.map vq ++ vrest kd_X12_goesOn (some 164) := rfl
def vb_X12_goesOn_164 : List VE := [(164, 7, 165, 0, 0)]
theorem ve_X12_goesOn_164 : zget kd_X12_goesOn 164 = vb_X12_goesOn_164.map vq ++ vrest kd_X12_goesOn (some 165) := rfl
def vb_X12_goesOn_165 : List VE := [(165, 62, 166, 2, 0)]
theorem ve_X12_goesOn_165 : zget kd_X12_goesOn 165 = vb_X12_goesOn_165.map vq ++ vrest kd_X12_goesOn (some 166) := rfl
def vb_X12_goesOn_166 : List VE := [(166, 0, 167, 0, 0), (167, 61, 170, 163, 209), (170, 8, 172, 41, 0), (172, 43, 175, 184, 0), (175, 0, 176, 0, 0), (176, 0, 177, 0, 0), (177, 49, 180, 12, 5), (180, 61, 183, 166, 210), (183, 62, 184, 2, 0)]
theorem ve_X12_goesOn_166 : zget kd_X12_goesOn 166 = vb_X12_goesOn_166.map vq ++ vrest kd_X12_goesOn (some 184) := rfl
def vb_X12_goesOn_184 : List VE := [(184, 0, 185, 0, 0), (185, 33, 186, 0, 0), (186, 49, 189, 12, 5), (189, 7, 190, 1, 0), (190, 14, 191, 0, 0), (191, 50, 194, 12, 5), (194, 0, 195, 0, 0), (195, 33, 196, 0, 0), (196, 49, 199, 12, 14), (199, 7, 200, 1, 0), (200, 15, 201, 0, 0), (201, 50, 204, 12, 14), (204, 36, 207, 0, 0)]
theorem ve_X12_goesOn_184 : zget kd_X12_goesOn 184 = vb_X12_goesOn_184.map vq ++ vrest kd_X12_goesOn (none) := rfl
def vb_X12_readLaw_0 : List VE := [(0, 0, 1, 0, 0), (1, 7, 2, 0, 0), (2, 50, 5, 12, 5), (5, 0, 6, 0, 0), (6, 7, 7, 4294967295, 0), (7, 50, 10, 12, 6), (10, 0, 11, 0, 0), (11, 7, 12, 0, 0), (12, 50, 15, 12, 10), (15, 0, 16, 0, 0), (16, 7, 17, 0, 0), (17, 50, 20, 12, 11), (20, 0, 21, 0, 0), (21, 7, 22, 0, 0), (22, 50, 25, 12, 14), (25, 0, 26, 0, 0), (26, 49, 29, 12, 12), (29, 7, 30, 0, 0), (30, 7, 31, 0, 0), (31, 52, 32, 0, 0), (32, 0, 33, 0, 0), (33, 49, 36, 12, 13), (36, 7, 37, 0, 0), (37, 7, 38, 0, 0), (38, 52, 39, 0, 0), (39, 0, 40, 0, 0), (40, 49, 43, 12, 4), (43, 42, 46, 50, 0), (46, 7, 47, 1, 0), (47, 36, 50, 51, 0)]
theorem ve_X12_readLaw_0 : zget kd_X12_readLaw 0 = vb_X12_readLaw_0.map vq ++ vrest kd_X12_readLaw (some 50) := rfl
def vb_X12_readLaw_50 : List VE := [(50, 7, 51, 0, 0)]
theorem ve_X12_readLaw_50 : zget kd_X12_readLaw 50 = vb_X12_readLaw_50.map vq ++ vrest kd_X12_readLaw (some 51) := rfl
def vb_X12_readLaw_51 : List VE := [(51, 3, 52, 1, 0)]
theorem ve_X12_readLaw_51 : zget kd_X12_readLaw 51 = vb_X12_readLaw_51.map vq ++ vrest kd_X12_readLaw (some 52) := rfl
def vb_X12_readLaw_52 : List VE := [(52, 1, 53, 1, 0), (53, 37, 56, 88, 0), (56, 0, 57, 0, 0), (57, 61, 60, 185, 209), (60, 3, 61, 2, 0), (61, 1, 62, 2, 0), (62, 7, 63, 4294967295, 0), (63, 44, 66, 68, 0), (66, 7, 67, 0, 0), (67, 62, 68, 2, 0)]
theorem ve_X12_readLaw_52 : zget kd_X12_readLaw 52 = vb_X12_readLaw_52.map vq ++ vrest kd_X12_readLaw (some 68) := rfl
def vb_X12_readLaw_68 : List VE := [(68, 1, 69, 2, 0), (69, 37, 72, 79, 0), (72, 0, 73, 0, 0), (73, 61, 76, 187, 209), (76, 37, 79, 83, 0)]
theorem ve_X12_readLaw_68 : zget kd_X12_readLaw 68 = vb_X12_readLaw_68.map vq ++ vrest kd_X12_readLaw (some 79) := rfl
def vb_X12_readLaw_79 : List VE := [(79, 7, 80, 1, 0), (80, 36, 83, 84, 0)]
theorem ve_X12_readLaw_79 : zget kd_X12_readLaw 79 = vb_X12_readLaw_79.map vq ++ vrest kd_X12_readLaw (some 83) := rfl
def vb_X12_readLaw_83 : List VE := [(83, 7, 84, 0, 0)]
theorem ve_X12_readLaw_83 : zget kd_X12_readLaw 83 = vb_X12_readLaw_83.map vq ++ vrest kd_X12_readLaw (some 84) := rfl
def vb_X12_readLaw_84 : List VE := [(84, 3, 85, 1, 0), (85, 36, 88, 52, 0)]
theorem ve_X12_readLaw_84 : zget kd_X12_readLaw 84 = vb_X12_readLaw_84.map vq ++ vrest kd_X12_readLaw (some 88) := rfl
def vb_X12_readLaw_88 : List VE := [(88, 0, 89, 0, 0), (89, 49, 92, 12, 6), (92, 7, 93, 4294967295, 0), (93, 44, 96, 100, 0), (96, 7, 97, 1, 0), (97, 36, 100, 101, 0)]
theorem ve_X12_readLaw_88 : zget kd_X12_readLaw 88 = vb_X12_readLaw_88.map vq ++ vrest kd_X12_readLaw (some 100) := rfl
def vb_X12_readLaw_100 : List VE := [(100, 7, 101, 0, 0)]
theorem ve_X12_readLaw_100 : zget kd_X12_readLaw 100 = vb_X12_readLaw_100.map vq ++ vrest kd_X12_readLaw (some 101) := rfl
def vb_X12_readLaw_101 : List VE := [(101, 62, 102, 2, 0)]
theorem ve_X12_readLaw_101 : zget kd_X12_readLaw 101 = vb_X12_readLaw_101.map vq ++ vrest kd_X12_readLaw (none) := rfl
def vb_X12_law_0 : List VE := [(0, 0, 1, 0, 0), (1, 61, 4, 188, 209), (4, 3, 5, 1, 0), (5, 0, 6, 0, 0), (6, 7, 7, 0, 0), (7, 50, 10, 12, 4), (10, 1, 11, 1, 0), (11, 38, 14, 16, 0), (14, 7, 15, 4294967295, 0), (15, 62, 16, 0, 0)]
theorem ve_X12_law_0 : zget kd_X12_law 0 = vb_X12_law_0.map vq ++ vrest kd_X12_law (some 16) := rfl
def vb_X12_law_16 : List VE := [(16, 0, 17, 0, 0), (17, 61, 20, 158, 209), (20, 0, 21, 0, 0), (21, 49, 24, 12, 0), (24, 8, 26, 10, 0), (26, 0, 27, 0, 0), (27, 49, 30, 12, 11), (30, 52, 31, 0, 0), (31, 0, 32, 0, 0), (32, 49, 35, 12, 0), (35, 8, 37, 11, 0), (37, 0, 38, 0, 0), (38, 49, 41, 12, 10), (41, 52, 42, 0, 0), (42, 7, 43, 0, 0), (43, 3, 44, 2, 0)]
theorem ve_X12_law_16 : zget kd_X12_law 16 = vb_X12_law_16.map vq ++ vrest kd_X12_law (some 44) := rfl
def vb_X12_law_44 : List VE := [(44, 1, 45, 2, 0), (45, 0, 46, 0, 0), (46, 49, 49, 12, 10), (49, 46, 52, 73, 0), (52, 0, 53, 0, 0), (53, 49, 56, 12, 0), (56, 8, 58, 12, 0), (58, 1, 59, 2, 0), (59, 14, 60, 0, 0), (60, 0, 61, 0, 0), (61, 49, 64, 12, 9), (64, 1, 65, 2, 0), (65, 51, 66, 0, 0), (66, 52, 67, 0, 0), (67, 6, 70, 2, 1), (70, 36, 73, 44, 0)]
theorem ve_X12_law_44 : zget kd_X12_law 44 = vb_X12_law_44.map vq ++ vrest kd_X12_law (some 73) := rfl
def vb_X12_law_73 : List VE := [(73, 0, 74, 0, 0), (74, 49, 77, 12, 11), (77, 62, 78, 0, 0)]
theorem ve_X12_law_73 : zget kd_X12_law 73 = vb_X12_law_73.map vq ++ vrest kd_X12_law (none) := rfl
def vb_X12_joined_0 : List VE := [(0, 1, 1, 0, 0), (1, 109, 52, 0, 0)]
theorem ve_X12_joined_0 : zget kd_X12_joined 0 = vb_X12_joined_0.map vq ++ vrest kd_X12_joined (some 52) := rfl
def vb_X12_joined_52 : List VE := [(52, 1, 53, 1, 0), (53, 1, 54, 2, 0), (54, 14, 55, 0, 0), (55, 62, 56, 0, 0)]
theorem ve_X12_joined_52 : zget kd_X12_joined 52 = vb_X12_joined_52.map vq ++ vrest kd_X12_joined (some 56) := rfl
def vb_X12_joined_56 : List VE := [(56, 1, 57, 1, 0), (57, 1, 58, 2, 0), (58, 15, 59, 0, 0), (59, 62, 60, 0, 0)]
theorem ve_X12_joined_56 : zget kd_X12_joined 56 = vb_X12_joined_56.map vq ++ vrest kd_X12_joined (some 60) := rfl
def vb_X12_joined_60 : List VE := [(60, 1, 61, 1, 0), (61, 1, 62, 2, 0), (62, 16, 63, 0, 0), (63, 62, 64, 0, 0)]
theorem ve_X12_joined_60 : zget kd_X12_joined 60 = vb_X12_joined_60.map vq ++ vrest kd_X12_joined (some 64) := rfl
def vb_X12_joined_64 : List VE := [(64, 1, 65, 2, 0), (65, 38, 68, 72, 0), (68, 7, 69, 0, 0), (69, 36, 72, 75, 0)]
theorem ve_X12_joined_64 : zget kd_X12_joined 64 = vb_X12_joined_64.map vq ++ vrest kd_X12_joined (some 72) := rfl
def vb_X12_joined_72 : List VE := [(72, 1, 73, 1, 0), (73, 1, 74, 2, 0), (74, 17, 75, 0, 0)]
theorem ve_X12_joined_72 : zget kd_X12_joined 72 = vb_X12_joined_72.map vq ++ vrest kd_X12_joined (some 75) := rfl
def vb_X12_joined_75 : List VE := [(75, 62, 76, 0, 0)]
theorem ve_X12_joined_75 : zget kd_X12_joined 75 = vb_X12_joined_75.map vq ++ vrest kd_X12_joined (some 76) := rfl
def vb_X12_joined_76 : List VE := [(76, 1, 77, 1, 0), (77, 1, 78, 2, 0), (78, 46, 81, 85, 0), (81, 1, 82, 1, 0), (82, 36, 85, 86, 0)]
theorem ve_X12_joined_76 : zget kd_X12_joined 76 = vb_X12_joined_76.map vq ++ vrest kd_X12_joined (some 85) := rfl
def vb_X12_joined_85 : List VE := [(85, 1, 86, 2, 0)]
theorem ve_X12_joined_85 : zget kd_X12_joined 85 = vb_X12_joined_85.map vq ++ vrest kd_X12_joined (some 86) := rfl
def vb_X12_joined_86 : List VE := [(86, 62, 87, 0, 0)]
theorem ve_X12_joined_86 : zget kd_X12_joined 86 = vb_X12_joined_86.map vq ++ vrest kd_X12_joined (some 87) := rfl
def vb_X12_joined_87 : List VE := [(87, 1, 88, 1, 0), (88, 1, 89, 2, 0), (89, 48, 92, 96, 0), (92, 1, 93, 1, 0), (93, 36, 96, 97, 0)]
theorem ve_X12_joined_87 : zget kd_X12_joined 87 = vb_X12_joined_87.map vq ++ vrest kd_X12_joined (some 96) := rfl
def vb_X12_joined_96 : List VE := [(96, 1, 97, 2, 0)]
theorem ve_X12_joined_96 : zget kd_X12_joined 96 = vb_X12_joined_96.map vq ++ vrest kd_X12_joined (some 97) := rfl
def vb_X12_joined_97 : List VE := [(97, 62, 98, 0, 0)]
theorem ve_X12_joined_97 : zget kd_X12_joined 97 = vb_X12_joined_97.map vq ++ vrest kd_X12_joined (none) := rfl
def vb_X12_lesser_0 : List VE := [(0, 1, 1, 0, 0), (1, 1, 2, 1, 0), (2, 46, 5, 9, 0), (5, 1, 6, 0, 0), (6, 36, 9, 10, 0)]
theorem ve_X12_lesser_0 : zget kd_X12_lesser 0 = vb_X12_lesser_0.map vq ++ vrest kd_X12_lesser (some 9) := rfl
def vb_X12_lesser_9 : List VE := [(9, 1, 10, 1, 0)]
theorem ve_X12_lesser_9 : zget kd_X12_lesser 9 = vb_X12_lesser_9.map vq ++ vrest kd_X12_lesser (some 10) := rfl
def vb_X12_lesser_10 : List VE := [(10, 62, 11, 0, 0)]
theorem ve_X12_lesser_10 : zget kd_X12_lesser 10 = vb_X12_lesser_10.map vq ++ vrest kd_X12_lesser (none) := rfl
def vb_X12_most_0 : List VE := [(0, 1, 1, 0, 0), (1, 1, 2, 1, 0), (2, 48, 5, 9, 0), (5, 1, 6, 0, 0), (6, 36, 9, 10, 0)]
theorem ve_X12_most_0 : zget kd_X12_most 0 = vb_X12_most_0.map vq ++ vrest kd_X12_most (some 9) := rfl
def vb_X12_most_9 : List VE := [(9, 1, 10, 1, 0)]
theorem ve_X12_most_9 : zget kd_X12_most 9 = vb_X12_most_9.map vq ++ vrest kd_X12_most (some 10) := rfl
def vb_X12_most_10 : List VE := [(10, 62, 11, 0, 0)]
theorem ve_X12_most_10 : zget kd_X12_most 10 = vb_X12_most_10.map vq ++ vrest kd_X12_most (none) := rfl
def vb_X12_agree_0 : List VE := [(0, 0, 1, 0, 0), (1, 49, 4, 12, 0), (4, 8, 6, 10, 0), (6, 51, 7, 0, 0), (7, 38, 10, 16, 0), (10, 1, 11, 1, 0), (11, 1, 12, 2, 0), (12, 60, 15, 191, 2), (15, 62, 16, 0, 0)]
theorem ve_X12_agree_0 : zget kd_X12_agree 0 = vb_X12_agree_0.map vq ++ vrest kd_X12_agree (some 16) := rfl
def vb_X12_agree_16 : List VE := [(16, 7, 17, 0, 0), (17, 3, 19, 4, 0), (19, 7, 20, 0, 0), (20, 3, 22, 5, 0)]
theorem ve_X12_agree_16 : zget kd_X12_agree 16 = vb_X12_agree_16.map vq ++ vrest kd_X12_agree (some 22) := rfl
def vb_X12_agree_22 : List VE := [(22, 1, 24, 5, 0), (24, 0, 25, 0, 0), (25, 49, 28, 12, 0), (28, 8, 30, 11, 0), (30, 51, 31, 0, 0), (31, 46, 34, 148, 0), (34, 0, 35, 0, 0), (35, 49, 38, 12, 0), (38, 8, 40, 12, 0), (40, 1, 42, 5, 0), (42, 14, 43, 0, 0), (43, 51, 44, 0, 0), (44, 3, 46, 6, 0), (46, 1, 48, 6, 0), (48, 9, 51, 11000, 0), (51, 46, 54, 105, 0), (54, 0, 55, 0, 0), (55, 49, 58, 12, 15), (58, 1, 60, 4, 0), (60, 1, 62, 6, 0), (62, 9, 65, 10000, 0), (65, 46, 68, 73, 0), (68, 1, 70, 6, 0), (70, 36, 73, 98, 0)]
theorem ve_X12_agree_22 : zget kd_X12_agree 22 = vb_X12_agree_22.map vq ++ vrest kd_X12_agree (some 73) := rfl
def vb_X12_agree_73 : List VE := [(73, 1, 75, 6, 0), (75, 9, 78, 10000, 0), (78, 44, 81, 85, 0), (81, 1, 82, 1, 0), (82, 36, 85, 98, 0)]
theorem ve_X12_agree_73 : zget kd_X12_agree 73 = vb_X12_agree_73.map vq ++ vrest kd_X12_agree (some 85) := rfl
def vb_X12_agree_85 : List VE := [(85, 1, 87, 6, 0), (87, 9, 90, 10001, 0), (90, 44, 93, 97, 0), (93, 1, 94, 2, 0), (94, 36, 97, 98, 0)]
theorem ve_X12_agree_85 : zget kd_X12_agree 85 = vb_X12_agree_85.map vq ++ vrest kd_X12_agree (some 97) := rfl
def vb_X12_agree_97 : List VE := [(97, 1, 98, 3, 0)]
theorem ve_X12_agree_97 : zget kd_X12_agree 97 = vb_X12_agree_97.map vq ++ vrest kd_X12_agree (some 98) := rfl
def vb_X12_agree_98 : List VE := [(98, 52, 99, 0, 0), (99, 6, 102, 4, 1), (102, 36, 105, 142, 0)]
theorem ve_X12_agree_98 : zget kd_X12_agree 98 = vb_X12_agree_98.map vq ++ vrest kd_X12_agree (some 105) := rfl
def vb_X12_agree_105 : List VE := [(105, 6, 108, 4, 4294967295), (108, 0, 109, 0, 0), (109, 49, 112, 12, 15), (112, 1, 114, 4, 0), (114, 7, 115, 1, 0), (115, 15, 116, 0, 0), (116, 1, 118, 6, 0), (118, 9, 121, 11000, 0), (121, 15, 122, 0, 0), (122, 0, 123, 0, 0), (123, 49, 126, 12, 15), (126, 1, 128, 4, 0), (128, 7, 129, 1, 0), (129, 15, 130, 0, 0), (130, 51, 131, 0, 0), (131, 0, 132, 0, 0), (132, 49, 135, 12, 15), (135, 1, 137, 4, 0), (137, 51, 138, 0, 0), (138, 60, 141, 190, 3), (141, 52, 142, 0, 0)]
theorem ve_X12_agree_105 : zget kd_X12_agree 105 = vb_X12_agree_105.map vq ++ vrest kd_X12_agree (some 142) := rfl
def vb_X12_agree_142 : List VE := [(142, 6, 145, 5, 1), (145, 36, 148, 22, 0)]
theorem ve_X12_agree_142 : zget kd_X12_agree 142 = vb_X12_agree_142.map vq ++ vrest kd_X12_agree (some 148) := rfl
def vb_X12_agree_148 : List VE := [(148, 7, 149, 0, 0), (149, 10, 151, 1000000, 0), (151, 0, 152, 0, 0), (152, 49, 155, 12, 15), (155, 7, 156, 0, 0), (156, 51, 157, 0, 0), (157, 60, 160, 191, 2), (160, 60, 163, 192, 2), (163, 62, 164, 0, 0)]
theorem ve_X12_agree_148 : zget kd_X12_agree 148 = vb_X12_agree_148.map vq ++ vrest kd_X12_agree (none) := rfl
def vb_X12_change_0 : List VE := [(0, 1, 1, 1, 0), (1, 1, 2, 2, 0), (2, 44, 5, 9, 0), (5, 7, 6, 0, 0), (6, 36, 9, 35, 0)]
theorem ve_X12_change_0 : zget kd_X12_change 0 = vb_X12_change_0.map vq ++ vrest kd_X12_change (some 9) := rfl
def vb_X12_change_9 : List VE := [(9, 1, 10, 1, 0), (10, 8, 12, 46, 0), (12, 43, 15, 30, 0), (15, 1, 16, 2, 0), (16, 8, 18, 46, 0), (18, 43, 21, 30, 0), (21, 0, 22, 0, 0), (22, 1, 23, 1, 0), (23, 1, 24, 2, 0), (24, 61, 27, 173, 211), (27, 37, 30, 34, 0)]
theorem ve_X12_change_9 : zget kd_X12_change 9 = vb_X12_change_9.map vq ++ vrest kd_X12_change (some 30) := rfl
def vb_X12_change_30 : List VE := [(30, 7, 31, 1, 0), (31, 36, 34, 35, 0)]
theorem ve_X12_change_30 : zget kd_X12_change 30 = vb_X12_change_30.map vq ++ vrest kd_X12_change (some 34) := rfl
def vb_X12_change_34 : List VE := [(34, 7, 35, 3, 0)]
theorem ve_X12_change_34 : zget kd_X12_change 34 = vb_X12_change_34.map vq ++ vrest kd_X12_change (some 35) := rfl
def vb_X12_change_35 : List VE := [(35, 62, 36, 0, 0)]
theorem ve_X12_change_35 : zget kd_X12_change 35 = vb_X12_change_35.map vq ++ vrest kd_X12_change (none) := rfl
def vb_X12_apartOf_0 : List VE := [(0, 0, 1, 0, 0), (1, 49, 4, 12, 0), (4, 1, 5, 3, 0), (5, 51, 6, 0, 0), (6, 3, 8, 5, 0), (8, 7, 9, 0, 0), (9, 3, 11, 6, 0)]
theorem ve_X12_apartOf_0 : zget kd_X12_apartOf 0 = vb_X12_apartOf_0.map vq ++ vrest kd_X12_apartOf (some 11) := rfl
def vb_X12_apartOf_11 : List VE := [(11, 1, 13, 6, 0), (13, 1, 15, 5, 0), (15, 47, 18, 35, 0), (18, 0, 19, 0, 0), (19, 49, 22, 12, 16), (22, 1, 24, 6, 0), (24, 7, 25, 2, 0), (25, 1, 27, 6, 0), (27, 16, 28, 0, 0), (28, 52, 29, 0, 0), (29, 6, 32, 6, 1), (32, 36, 35, 11, 0)]
theorem ve_X12_apartOf_11 : zget kd_X12_apartOf 11 = vb_X12_apartOf_11.map vq ++ vrest kd_X12_apartOf (some 35) := rfl
def vb_X12_apartOf_35 : List VE := [(35, 7, 36, 0, 0), (36, 3, 38, 6, 0)]
theorem ve_X12_apartOf_35 : zget kd_X12_apartOf 35 = vb_X12_apartOf_35.map vq ++ vrest kd_X12_apartOf (some 38) := rfl
def vb_X12_apartOf_38 : List VE := [(38, 1, 40, 6, 0), (40, 0, 41, 0, 0), (41, 49, 44, 12, 0), (44, 1, 45, 1, 0), (45, 51, 46, 0, 0), (46, 46, 49, 165, 0), (49, 0, 50, 0, 0), (50, 49, 53, 12, 16), (53, 7, 54, 0, 0), (54, 51, 55, 0, 0), (55, 3, 57, 7, 0), (57, 0, 58, 0, 0), (58, 49, 61, 12, 16), (61, 7, 62, 0, 0), (62, 7, 63, 2, 0), (63, 1, 65, 6, 0), (65, 16, 66, 0, 0), (66, 7, 67, 2, 0), (67, 14, 68, 0, 0), (68, 52, 69, 0, 0), (69, 7, 70, 0, 0), (70, 3, 72, 8, 0)]
theorem ve_X12_apartOf_38 : zget kd_X12_apartOf 38 = vb_X12_apartOf_38.map vq ++ vrest kd_X12_apartOf (some 72) := rfl
def vb_X12_apartOf_72 : List VE := [(72, 1, 74, 8, 0), (74, 1, 76, 5, 0), (76, 46, 79, 159, 0), (79, 1, 81, 7, 0), (81, 0, 82, 0, 0), (82, 0, 83, 0, 0), (83, 49, 86, 12, 0), (86, 1, 87, 2, 0), (87, 1, 89, 6, 0), (89, 14, 90, 0, 0), (90, 51, 91, 0, 0), (91, 0, 92, 0, 0), (92, 49, 95, 12, 0), (95, 1, 97, 4, 0), (97, 1, 99, 8, 0), (99, 14, 100, 0, 0), (100, 51, 101, 0, 0), (101, 61, 104, 194, 211), (104, 14, 105, 0, 0), (105, 3, 107, 9, 0), (107, 0, 108, 0, 0), (108, 49, 111, 12, 16), (111, 1, 113, 8, 0), (113, 7, 114, 1, 0), (114, 14, 115, 0, 0), (115, 51, 116, 0, 0), (116, 3, 118, 7, 0), (118, 0, 119, 0, 0), (119, 49, 122, 12, 16), (122, 1, 124, 8, 0), (124, 7, 125, 1, 0), (125, 14, 126, 0, 0), (126, 1, 128, 9, 0), (128, 0, 129, 0, 0), (129, 49, 132, 12, 16), (132, 1, 134, 8, 0), (134, 7, 135, 1, 0), (135, 14, 136, 0, 0), (136, 51, 137, 0, 0), (137, 0, 138, 0, 0), (138, 49, 141, 12, 16), (141, 1, 143, 8, 0), (143, 51, 144, 0, 0), (144, 60, 147, 191, 2), (147, 7, 148, 2, 0), (148, 14, 149, 0, 0), (149, 60, 152, 191, 2), (152, 52, 153, 0, 0), (153, 6, 156, 8, 1), (156, 36, 159, 72, 0)]
theorem ve_X12_apartOf_72 : zget kd_X12_apartOf 72 = vb_X12_apartOf_72.map vq ++ vrest kd_X12_apartOf (some 159) := rfl
def vb_X12_apartOf_159 : List VE := [(159, 6, 162, 6, 1), (162, 36, 165, 38, 0)]
theorem ve_X12_apartOf_159 : zget kd_X12_apartOf 159 = vb_X12_apartOf_159.map vq ++ vrest kd_X12_apartOf (some 165) := rfl
def vb_X12_apartOf_165 : List VE := [(165, 0, 166, 0, 0), (166, 49, 169, 12, 16), (169, 1, 171, 5, 0), (171, 51, 172, 0, 0), (172, 62, 173, 0, 0)]
theorem ve_X12_apartOf_165 : zget kd_X12_apartOf 165 = vb_X12_apartOf_165.map vq ++ vrest kd_X12_apartOf (none) := rfl
def vb_X12_lineApart_0 : List VE := [(0, 0, 1, 0, 0), (1, 1, 2, 1, 0), (2, 60, 5, 175, 1), (5, 7, 6, 3, 0), (6, 14, 7, 0, 0), (7, 1, 8, 1, 0), (8, 60, 11, 175, 1), (11, 7, 12, 4, 0), (12, 14, 13, 0, 0), (13, 1, 14, 2, 0), (14, 60, 17, 174, 1), (17, 7, 18, 0, 0), (18, 14, 19, 0, 0), (19, 1, 20, 2, 0), (20, 60, 23, 174, 1), (23, 7, 24, 1, 0), (24, 14, 25, 0, 0), (25, 61, 28, 195, 213), (28, 62, 29, 0, 0)]
theorem ve_X12_lineApart_0 : zget kd_X12_lineApart 0 = vb_X12_lineApart_0.map vq ++ vrest kd_X12_lineApart (none) := rfl
def vb_X12_billApart_0 : List VE := [(0, 0, 1, 0, 0), (1, 1, 2, 1, 0), (2, 60, 5, 174, 1), (5, 7, 6, 0, 0), (6, 14, 7, 0, 0), (7, 1, 8, 1, 0), (8, 60, 11, 174, 1), (11, 7, 12, 1, 0), (12, 14, 13, 0, 0), (13, 1, 14, 2, 0), (14, 60, 17, 174, 1), (17, 7, 18, 0, 0), (18, 14, 19, 0, 0), (19, 1, 20, 2, 0), (20, 60, 23, 174, 1), (23, 7, 24, 1, 0), (24, 14, 25, 0, 0), (25, 61, 28, 195, 213), (28, 62, 29, 0, 0)]
theorem ve_X12_billApart_0 : zget kd_X12_billApart 0 = vb_X12_billApart_0.map vq ++ vrest kd_X12_billApart (none) := rfl
def vb_X12_isBill_0 : List VE := [(0, 1, 1, 1, 0), (1, 7, 2, 0, 0), (2, 0, 3, 0, 0), (3, 49, 6, 12, 0), (6, 7, 7, 0, 0), (7, 51, 8, 0, 0), (8, 7, 9, 1, 0), (9, 15, 10, 0, 0), (10, 60, 13, 156, 3), (13, 62, 14, 2, 0)]
theorem ve_X12_isBill_0 : zget kd_X12_isBill 0 = vb_X12_isBill_0.map vq ++ vrest kd_X12_isBill (none) := rfl
def vb_X12_isLine_0 : List VE := [(0, 1, 1, 1, 0), (1, 7, 2, 0, 0), (2, 0, 3, 0, 0), (3, 49, 6, 12, 0), (6, 7, 7, 2, 0), (7, 51, 8, 0, 0), (8, 7, 9, 1, 0), (9, 15, 10, 0, 0), (10, 60, 13, 156, 3), (13, 62, 14, 2, 0)]
theorem ve_X12_isLine_0 : zget kd_X12_isLine 0 = vb_X12_isLine_0.map vq ++ vrest kd_X12_isLine (none) := rfl
def vb_X12_apart_0 : List VE := [(0, 0, 1, 0, 0), (1, 1, 2, 1, 0), (2, 61, 5, 199, 210), (5, 37, 8, 25, 0), (8, 0, 9, 0, 0), (9, 1, 10, 2, 0), (10, 61, 13, 198, 210), (13, 37, 16, 25, 0), (16, 0, 17, 0, 0), (17, 1, 18, 1, 0), (18, 1, 19, 2, 0), (19, 61, 22, 196, 211), (22, 36, 25, 26, 0)]
theorem ve_X12_apart_0 : zget kd_X12_apart 0 = vb_X12_apart_0.map vq ++ vrest kd_X12_apart (some 25) := rfl
def vb_X12_apart_25 : List VE := [(25, 7, 26, 4294967295, 0)]
theorem ve_X12_apart_25 : zget kd_X12_apart 25 = vb_X12_apart_25.map vq ++ vrest kd_X12_apart (some 26) := rfl
def vb_X12_apart_26 : List VE := [(26, 62, 27, 0, 0)]
theorem ve_X12_apart_26 : zget kd_X12_apart 26 = vb_X12_apart_26.map vq ++ vrest kd_X12_apart (none) := rfl
def vb_X12_layNear_0 : List VE := [(0, 0, 1, 0, 0), (1, 7, 2, 0, 0), (2, 50, 5, 12, 19), (5, 7, 6, 0, 0), (6, 3, 7, 3, 0)]
theorem ve_X12_layNear_0 : zget kd_X12_layNear 0 = vb_X12_layNear_0.map vq ++ vrest kd_X12_layNear (some 7) := rfl
def vb_X12_layNear_7 : List VE := [(7, 1, 8, 3, 0), (8, 0, 9, 0, 0), (9, 49, 12, 12, 0), (12, 7, 13, 0, 0), (13, 51, 14, 0, 0), (14, 46, 17, 118, 0), (17, 0, 18, 0, 0), (18, 1, 19, 1, 0), (19, 1, 20, 2, 0), (20, 1, 21, 3, 0), (21, 60, 24, 174, 1), (24, 7, 25, 0, 0), (25, 14, 26, 0, 0), (26, 1, 27, 3, 0), (27, 60, 30, 174, 1), (30, 7, 31, 1, 0), (31, 14, 32, 0, 0), (32, 61, 35, 195, 213), (35, 3, 37, 4, 0), (37, 0, 38, 0, 0), (38, 49, 41, 12, 19), (41, 42, 44, 56, 0), (44, 1, 46, 4, 0), (46, 0, 47, 0, 0), (47, 49, 50, 12, 17), (50, 48, 53, 56, 0), (53, 36, 56, 112, 0)]
theorem ve_X12_layNear_7 : zget kd_X12_layNear 7 = vb_X12_layNear_7.map vq ++ vrest kd_X12_layNear (some 56) := rfl
def vb_X12_layNear_56 : List VE := [(56, 0, 57, 0, 0), (57, 0, 58, 0, 0), (58, 49, 61, 12, 19), (61, 42, 64, 82, 0), (64, 1, 66, 4, 0), (66, 0, 67, 0, 0), (67, 49, 70, 12, 17), (70, 44, 73, 82, 0), (73, 0, 74, 0, 0), (74, 49, 77, 12, 19), (77, 7, 78, 1, 0), (78, 14, 79, 0, 0), (79, 36, 82, 83, 0)]
theorem ve_X12_layNear_56 : zget kd_X12_layNear 56 = vb_X12_layNear_56.map vq ++ vrest kd_X12_layNear (some 82) := rfl
def vb_X12_layNear_82 : List VE := [(82, 7, 83, 1, 0)]
theorem ve_X12_layNear_82 : zget kd_X12_layNear 82 = vb_X12_layNear_82.map vq ++ vrest kd_X12_layNear (some 83) := rfl
def vb_X12_layNear_83 : List VE := [(83, 50, 86, 12, 19), (86, 0, 87, 0, 0), (87, 0, 88, 0, 0), (88, 49, 91, 12, 19), (91, 7, 92, 1, 0), (92, 44, 95, 99, 0), (95, 1, 96, 3, 0), (96, 36, 99, 103, 0)]
theorem ve_X12_layNear_83 : zget kd_X12_layNear 83 = vb_X12_layNear_83.map vq ++ vrest kd_X12_layNear (some 99) := rfl
def vb_X12_layNear_99 : List VE := [(99, 0, 100, 0, 0), (100, 49, 103, 12, 18)]
theorem ve_X12_layNear_99 : zget kd_X12_layNear 99 = vb_X12_layNear_99.map vq ++ vrest kd_X12_layNear (some 103) := rfl
def vb_X12_layNear_103 : List VE := [(103, 50, 106, 12, 18), (106, 0, 107, 0, 0), (107, 1, 109, 4, 0), (109, 50, 112, 12, 17)]
theorem ve_X12_layNear_103 : zget kd_X12_layNear 103 = vb_X12_layNear_103.map vq ++ vrest kd_X12_layNear (some 112) := rfl
def vb_X12_layNear_112 : List VE := [(112, 6, 115, 3, 1), (115, 36, 118, 7, 0)]
theorem ve_X12_layNear_112 : zget kd_X12_layNear 112 = vb_X12_layNear_112.map vq ++ vrest kd_X12_layNear (some 118) := rfl
def vb_X12_layNear_118 : List VE := [(118, 65, 119, 0, 0)]
theorem ve_X12_layNear_118 : zget kd_X12_layNear 118 = vb_X12_layNear_118.map vq ++ vrest kd_X12_layNear (none) := rfl
def vb_X12_readOf_0 : List VE := [(0, 0, 1, 0, 0), (1, 1, 2, 1, 0), (2, 1, 3, 2, 0), (3, 61, 6, 201, 211), (6, 0, 7, 0, 0), (7, 49, 10, 12, 19), (10, 37, 13, 26, 0), (13, 0, 14, 0, 0), (14, 49, 17, 12, 17), (17, 0, 18, 0, 0), (18, 49, 21, 12, 0), (21, 7, 22, 3, 0), (22, 51, 23, 0, 0), (23, 48, 26, 29, 0)]
theorem ve_X12_readOf_0 : zget kd_X12_readOf 0 = vb_X12_readOf_0.map vq ++ vrest kd_X12_readOf (some 26) := rfl
def vb_X12_readOf_26 : List VE := [(26, 8, 28, 4294967293, 0), (28, 62, 29, 0, 0)]
theorem ve_X12_readOf_26 : zget kd_X12_readOf 26 = vb_X12_readOf_26.map vq ++ vrest kd_X12_readOf (some 29) := rfl
def vb_X12_readOf_29 : List VE := [(29, 0, 30, 0, 0), (30, 49, 33, 12, 19), (33, 7, 34, 1, 0), (34, 48, 37, 42, 0), (37, 8, 39, 4294967294, 0), (39, 36, 42, 46, 0)]
theorem ve_X12_readOf_29 : zget kd_X12_readOf 29 = vb_X12_readOf_29.map vq ++ vrest kd_X12_readOf (some 42) := rfl
def vb_X12_readOf_42 : List VE := [(42, 0, 43, 0, 0), (43, 49, 46, 12, 18)]
theorem ve_X12_readOf_42 : zget kd_X12_readOf 42 = vb_X12_readOf_42.map vq ++ vrest kd_X12_readOf (some 46) := rfl
def vb_X12_readOf_46 : List VE := [(46, 62, 47, 0, 0)]
theorem ve_X12_readOf_46 : zget kd_X12_readOf 46 = vb_X12_readOf_46.map vq ++ vrest kd_X12_readOf (none) := rfl
def vb_X12_lineRead_0 : List VE := [(0, 0, 1, 0, 0), (1, 1, 2, 1, 0), (2, 60, 5, 175, 1), (5, 7, 6, 3, 0), (6, 14, 7, 0, 0), (7, 1, 8, 1, 0), (8, 60, 11, 175, 1), (11, 7, 12, 4, 0), (12, 14, 13, 0, 0), (13, 61, 16, 202, 211), (16, 62, 17, 0, 0)]
theorem ve_X12_lineRead_0 : zget kd_X12_lineRead 0 = vb_X12_lineRead_0.map vq ++ vrest kd_X12_lineRead (none) := rfl
def vb_X12_read_0 : List VE := [(0, 0, 1, 0, 0), (1, 1, 2, 1, 0), (2, 61, 5, 199, 210), (5, 37, 8, 16, 0), (8, 0, 9, 0, 0), (9, 1, 10, 1, 0), (10, 61, 13, 203, 210), (13, 36, 16, 17, 0)]
theorem ve_X12_read_0 : zget kd_X12_read 0 = vb_X12_read_0.map vq ++ vrest kd_X12_read (some 16) := rfl
def vb_X12_read_16 : List VE := [(16, 7, 17, 4294967295, 0)]
theorem ve_X12_read_16 : zget kd_X12_read 16 = vb_X12_read_16.map vq ++ vrest kd_X12_read (some 17) := rfl
def vb_X12_read_17 : List VE := [(17, 62, 18, 0, 0)]
theorem ve_X12_read_17 : zget kd_X12_read 17 = vb_X12_read_17.map vq ++ vrest kd_X12_read (none) := rfl
def vb_X12_least_0 : List VE := [(0, 0, 1, 0, 0), (1, 1, 2, 1, 0), (2, 61, 5, 199, 210), (5, 38, 8, 10, 0), (8, 7, 9, 4294967295, 0), (9, 62, 10, 0, 0)]
theorem ve_X12_least_0 : zget kd_X12_least 0 = vb_X12_least_0.map vq ++ vrest kd_X12_least (some 10) := rfl
def vb_X12_least_10 : List VE := [(10, 0, 11, 0, 0), (11, 1, 12, 1, 0), (12, 60, 15, 175, 1), (15, 7, 16, 3, 0), (16, 14, 17, 0, 0), (17, 1, 18, 1, 0), (18, 60, 21, 175, 1), (21, 7, 22, 4, 0), (22, 14, 23, 0, 0), (23, 61, 26, 201, 211), (26, 0, 27, 0, 0), (27, 49, 30, 12, 19), (30, 7, 31, 1, 0), (31, 44, 34, 50, 0), (34, 0, 35, 0, 0), (35, 49, 38, 12, 17), (38, 8, 40, 20, 0), (40, 47, 43, 50, 0), (43, 0, 44, 0, 0), (44, 49, 47, 12, 17), (47, 36, 50, 51, 0)]
theorem ve_X12_least_10 : zget kd_X12_least 10 = vb_X12_least_10.map vq ++ vrest kd_X12_least (some 50) := rfl
def vb_X12_least_50 : List VE := [(50, 7, 51, 4294967295, 0)]
theorem ve_X12_least_50 : zget kd_X12_least 50 = vb_X12_least_50.map vq ++ vrest kd_X12_least (some 51) := rfl
def vb_X12_least_51 : List VE := [(51, 62, 52, 0, 0)]
theorem ve_X12_least_51 : zget kd_X12_least 51 = vb_X12_least_51.map vq ++ vrest kd_X12_least (none) := rfl
def vb_X12_heapAt_0 : List VE := [(0, 1, 1, 1, 0), (1, 60, 4, 175, 1), (4, 3, 5, 2, 0), (5, 7, 6, 0, 0), (6, 3, 7, 3, 0)]
theorem ve_X12_heapAt_0 : zget kd_X12_heapAt 0 = vb_X12_heapAt_0.map vq ++ vrest kd_X12_heapAt (some 7) := rfl
def vb_X12_heapAt_7 : List VE := [(7, 1, 8, 3, 0), (8, 0, 9, 0, 0), (9, 49, 12, 12, 26), (12, 46, 15, 55, 0), (15, 0, 16, 0, 0), (16, 49, 19, 12, 21), (19, 1, 20, 3, 0), (20, 51, 21, 0, 0), (21, 60, 24, 175, 1), (24, 3, 26, 4, 0), (26, 0, 27, 0, 0), (27, 1, 28, 2, 0), (28, 7, 29, 3, 0), (29, 14, 30, 0, 0), (30, 1, 31, 2, 0), (31, 7, 32, 4, 0), (32, 14, 33, 0, 0), (33, 1, 35, 4, 0), (35, 7, 36, 3, 0), (36, 14, 37, 0, 0), (37, 1, 39, 4, 0), (39, 7, 40, 4, 0), (40, 14, 41, 0, 0), (41, 61, 44, 176, 213), (44, 37, 47, 49, 0), (47, 1, 48, 3, 0), (48, 62, 49, 0, 0)]
theorem ve_X12_heapAt_7 : zget kd_X12_heapAt 7 = vb_X12_heapAt_7.map vq ++ vrest kd_X12_heapAt (some 49) := rfl
def vb_X12_heapAt_49 : List VE := [(49, 6, 52, 3, 1), (52, 36, 55, 7, 0)]
theorem ve_X12_heapAt_49 : zget kd_X12_heapAt 49 = vb_X12_heapAt_49.map vq ++ vrest kd_X12_heapAt (some 55) := rfl
def vb_X12_heapAt_55 : List VE := [(55, 0, 56, 0, 0), (56, 49, 59, 12, 21), (59, 0, 60, 0, 0), (60, 49, 63, 12, 26), (63, 1, 64, 1, 0), (64, 52, 65, 0, 0), (65, 0, 66, 0, 0), (66, 33, 67, 0, 0), (67, 49, 70, 12, 26), (70, 7, 71, 1, 0), (71, 14, 72, 0, 0), (72, 50, 75, 12, 26), (75, 0, 76, 0, 0), (76, 49, 79, 12, 26), (79, 7, 80, 1, 0), (80, 15, 81, 0, 0), (81, 62, 82, 0, 0)]
theorem ve_X12_heapAt_55 : zget kd_X12_heapAt 55 = vb_X12_heapAt_55.map vq ++ vrest kd_X12_heapAt (none) := rfl
def vb_X12_layReads_0 : List VE := [(0, 0, 1, 0, 0), (1, 7, 2, 0, 0), (2, 50, 5, 12, 26), (5, 7, 6, 0, 0), (6, 3, 7, 1, 0)]
theorem ve_X12_layReads_0 : zget kd_X12_layReads 0 = vb_X12_layReads_0.map vq ++ vrest kd_X12_layReads (some 7) := rfl
def vb_X12_layReads_7 : List VE := [(7, 1, 8, 1, 0), (8, 8, 10, 72, 0), (10, 46, 13, 33, 0), (13, 0, 14, 0, 0), (14, 49, 17, 12, 23), (17, 1, 18, 1, 0), (18, 7, 19, 0, 0), (19, 52, 20, 0, 0), (20, 0, 21, 0, 0), (21, 49, 24, 12, 24), (24, 1, 25, 1, 0), (25, 7, 26, 0, 0), (26, 52, 27, 0, 0), (27, 6, 30, 1, 1), (30, 36, 33, 7, 0)]
theorem ve_X12_layReads_7 : zget kd_X12_layReads 7 = vb_X12_layReads_7.map vq ++ vrest kd_X12_layReads (some 33) := rfl
def vb_X12_layReads_33 : List VE := [(33, 7, 34, 0, 0), (34, 3, 35, 1, 0)]
theorem ve_X12_layReads_33 : zget kd_X12_layReads 33 = vb_X12_layReads_33.map vq ++ vrest kd_X12_layReads (some 35) := rfl
def vb_X12_layReads_35 : List VE := [(35, 1, 36, 1, 0), (36, 0, 37, 0, 0), (37, 49, 40, 12, 0), (40, 7, 41, 2, 0), (41, 51, 42, 0, 0), (42, 46, 45, 171, 0), (45, 0, 46, 0, 0), (46, 49, 49, 12, 20), (49, 1, 50, 1, 0), (50, 0, 51, 0, 0), (51, 1, 52, 1, 0), (52, 61, 55, 203, 210), (55, 52, 56, 0, 0), (56, 0, 57, 0, 0), (57, 49, 60, 12, 22), (60, 1, 61, 1, 0), (61, 0, 62, 0, 0), (62, 49, 65, 12, 20), (65, 1, 66, 1, 0), (66, 51, 67, 0, 0), (67, 40, 70, 78, 0), (70, 0, 71, 0, 0), (71, 1, 72, 1, 0), (72, 61, 75, 206, 210), (75, 36, 78, 79, 0)]
theorem ve_X12_layReads_35 : zget kd_X12_layReads 35 = vb_X12_layReads_35.map vq ++ vrest kd_X12_layReads (some 78) := rfl
def vb_X12_layReads_78 : List VE := [(78, 7, 79, 4294967295, 0)]
theorem ve_X12_layReads_78 : zget kd_X12_layReads 78 = vb_X12_layReads_78.map vq ++ vrest kd_X12_layReads (some 79) := rfl
def vb_X12_layReads_79 : List VE := [(79, 52, 80, 0, 0), (80, 0, 81, 0, 0), (81, 49, 84, 12, 20), (84, 1, 85, 1, 0), (85, 51, 86, 0, 0), (86, 40, 89, 101, 0), (89, 8, 91, 12, 0), (91, 0, 92, 0, 0), (92, 49, 95, 12, 22), (95, 1, 96, 1, 0), (96, 51, 97, 0, 0), (97, 14, 98, 0, 0), (98, 36, 101, 107, 0)]
theorem ve_X12_layReads_79 : zget kd_X12_layReads 79 = vb_X12_layReads_79.map vq ++ vrest kd_X12_layReads (some 101) := rfl
def vb_X12_layReads_101 : List VE := [(101, 0, 102, 0, 0), (102, 49, 105, 12, 20), (105, 1, 106, 1, 0), (106, 51, 107, 0, 0)]
theorem ve_X12_layReads_101 : zget kd_X12_layReads 101 = vb_X12_layReads_101.map vq ++ vrest kd_X12_layReads (some 107) := rfl
def vb_X12_layReads_107 : List VE := [(107, 3, 108, 2, 0), (108, 0, 109, 0, 0), (109, 49, 112, 12, 0), (112, 1, 113, 1, 0), (113, 60, 116, 175, 1), (116, 7, 117, 0, 0), (117, 14, 118, 0, 0), (118, 51, 119, 0, 0), (119, 38, 122, 145, 0), (122, 0, 123, 0, 0), (123, 49, 126, 12, 23), (126, 1, 127, 2, 0), (127, 34, 128, 0, 0), (128, 51, 129, 0, 0), (129, 0, 130, 0, 0), (130, 49, 133, 12, 0), (133, 1, 134, 1, 0), (134, 60, 137, 175, 1), (137, 7, 138, 2, 0), (138, 14, 139, 0, 0), (139, 51, 140, 0, 0), (140, 14, 141, 0, 0), (141, 52, 142, 0, 0), (142, 36, 145, 165, 0)]
theorem ve_X12_layReads_107 : zget kd_X12_layReads 107 = vb_X12_layReads_107.map vq ++ vrest kd_X12_layReads (some 145) := rfl
def vb_X12_layReads_145 : List VE := [(145, 0, 146, 0, 0), (146, 49, 149, 12, 24), (149, 1, 150, 2, 0), (150, 34, 151, 0, 0), (151, 51, 152, 0, 0), (152, 0, 153, 0, 0), (153, 49, 156, 12, 0), (156, 1, 157, 1, 0), (157, 60, 160, 175, 1), (160, 7, 161, 2, 0), (161, 14, 162, 0, 0), (162, 51, 163, 0, 0), (163, 14, 164, 0, 0), (164, 52, 165, 0, 0)]
theorem ve_X12_layReads_145 : zget kd_X12_layReads 145 = vb_X12_layReads_145.map vq ++ vrest kd_X12_layReads (some 165) := rfl
def vb_X12_layReads_165 : List VE := [(165, 6, 168, 1, 1), (168, 36, 171, 35, 0)]
theorem ve_X12_layReads_165 : zget kd_X12_layReads 165 = vb_X12_layReads_165.map vq ++ vrest kd_X12_layReads (some 171) := rfl
def vb_X12_layReads_171 : List VE := [(171, 7, 172, 0, 0), (172, 3, 173, 1, 0)]
theorem ve_X12_layReads_171 : zget kd_X12_layReads 171 = vb_X12_layReads_171.map vq ++ vrest kd_X12_layReads (some 173) := rfl
def vb_X12_layReads_173 : List VE := [(173, 1, 174, 1, 0), (174, 8, 176, 12, 0), (176, 0, 177, 0, 0), (177, 49, 180, 12, 26), (180, 14, 181, 0, 0), (181, 46, 184, 238, 0), (184, 0, 185, 0, 0), (185, 49, 188, 12, 25), (188, 1, 189, 1, 0), (189, 0, 190, 0, 0), (190, 0, 191, 0, 0), (191, 49, 194, 12, 23), (194, 1, 195, 1, 0), (195, 51, 196, 0, 0), (196, 0, 197, 0, 0), (197, 49, 200, 12, 24), (200, 1, 201, 1, 0), (201, 51, 202, 0, 0), (202, 1, 203, 1, 0), (203, 0, 204, 0, 0), (204, 49, 207, 12, 0), (207, 7, 208, 0, 0), (208, 51, 209, 0, 0), (209, 46, 212, 227, 0), (212, 0, 213, 0, 0), (213, 49, 216, 12, 0), (216, 1, 217, 1, 0), (217, 60, 220, 174, 1), (220, 8, 222, 9, 0), (222, 14, 223, 0, 0), (223, 51, 224, 0, 0), (224, 36, 227, 228, 0)]
theorem ve_X12_layReads_173 : zget kd_X12_layReads 173 = vb_X12_layReads_173.map vq ++ vrest kd_X12_layReads (some 227) := rfl
def vb_X12_layReads_227 : List VE := [(227, 7, 228, 0, 0)]
theorem ve_X12_layReads_227 : zget kd_X12_layReads 227 = vb_X12_layReads_227.map vq ++ vrest kd_X12_layReads (some 228) := rfl
def vb_X12_layReads_228 : List VE := [(228, 61, 231, 193, 212), (231, 52, 232, 0, 0), (232, 6, 235, 1, 1), (235, 36, 238, 173, 0)]
theorem ve_X12_layReads_228 : zget kd_X12_layReads 228 = vb_X12_layReads_228.map vq ++ vrest kd_X12_layReads (some 238) := rfl
def vb_X12_layReads_238 : List VE := [(238, 65, 239, 0, 0)]
theorem ve_X12_layReads_238 : zget kd_X12_layReads 238 = vb_X12_layReads_238.map vq ++ vrest kd_X12_layReads (none) := rfl
def vb_X12_due_0 : List VE := [(0, 1, 1, 1, 0), (1, 60, 4, 174, 1), (4, 3, 5, 2, 0), (5, 0, 6, 0, 0), (6, 49, 9, 12, 0), (9, 1, 10, 2, 0), (10, 8, 12, 9, 0), (12, 14, 13, 0, 0), (13, 51, 14, 0, 0), (14, 3, 15, 3, 0), (15, 7, 16, 0, 0), (16, 3, 18, 4, 0)]
theorem ve_X12_due_0 : zget kd_X12_due 0 = vb_X12_due_0.map vq ++ vrest kd_X12_due (some 18) := rfl
def vb_X12_due_18 : List VE := [(18, 1, 20, 4, 0), (20, 0, 21, 0, 0), (21, 49, 24, 12, 0), (24, 1, 25, 2, 0), (25, 8, 27, 13, 0), (27, 14, 28, 0, 0), (28, 51, 29, 0, 0), (29, 46, 32, 78, 0), (32, 1, 33, 3, 0), (33, 0, 34, 0, 0), (34, 49, 37, 12, 0), (37, 1, 38, 2, 0), (38, 8, 40, 14, 0), (40, 14, 41, 0, 0), (41, 7, 42, 2, 0), (42, 1, 44, 4, 0), (44, 16, 45, 0, 0), (45, 14, 46, 0, 0), (46, 51, 47, 0, 0), (47, 38, 50, 69, 0), (50, 0, 51, 0, 0), (51, 49, 54, 12, 0), (54, 1, 55, 2, 0), (55, 8, 57, 14, 0), (57, 14, 58, 0, 0), (58, 7, 59, 2, 0), (59, 1, 61, 4, 0), (61, 16, 62, 0, 0), (62, 14, 63, 0, 0), (63, 7, 64, 1, 0), (64, 14, 65, 0, 0), (65, 51, 66, 0, 0), (66, 36, 69, 70, 0)]
theorem ve_X12_due_18 : zget kd_X12_due 18 = vb_X12_due_18.map vq ++ vrest kd_X12_due (some 69) := rfl
def vb_X12_due_69 : List VE := [(69, 7, 70, 0, 0)]
theorem ve_X12_due_69 : zget kd_X12_due 69 = vb_X12_due_69.map vq ++ vrest kd_X12_due (some 70) := rfl
def vb_X12_due_70 : List VE := [(70, 15, 71, 0, 0), (71, 3, 72, 3, 0), (72, 6, 75, 4, 1), (75, 36, 78, 18, 0)]
theorem ve_X12_due_70 : zget kd_X12_due 70 = vb_X12_due_70.map vq ++ vrest kd_X12_due (some 78) := rfl
def vb_X12_due_78 : List VE := [(78, 7, 79, 0, 0), (79, 1, 80, 3, 0), (80, 60, 83, 192, 2), (83, 62, 84, 0, 0)]
theorem ve_X12_due_78 : zget kd_X12_due 78 = vb_X12_due_78.map vq ++ vrest kd_X12_due (none) := rfl
def vb_X12_countReads_0 : List VE := [(0, 0, 1, 0, 0), (1, 61, 4, 207, 209), (4, 7, 5, 0, 0), (5, 3, 6, 2, 0), (6, 7, 7, 0, 0), (7, 3, 8, 3, 0)]
theorem ve_X12_countReads_0 : zget kd_X12_countReads 0 = vb_X12_countReads_0.map vq ++ vrest kd_X12_countReads (some 8) := rfl
def vb_X12_countReads_8 : List VE := [(8, 1, 9, 3, 0), (9, 0, 10, 0, 0), (10, 49, 13, 12, 0), (13, 7, 14, 2, 0), (14, 51, 15, 0, 0), (15, 46, 18, 63, 0), (18, 1, 19, 2, 0), (19, 1, 20, 1, 0), (20, 38, 23, 40, 0), (23, 0, 24, 0, 0), (24, 49, 27, 12, 20), (27, 1, 28, 3, 0), (28, 51, 29, 0, 0), (29, 39, 32, 36, 0), (32, 7, 33, 1, 0), (33, 36, 36, 55, 0)]
theorem ve_X12_countReads_8 : zget kd_X12_countReads 8 = vb_X12_countReads_8.map vq ++ vrest kd_X12_countReads (some 36) := rfl
def vb_X12_countReads_36 : List VE := [(36, 7, 37, 0, 0), (37, 36, 40, 55, 0)]
theorem ve_X12_countReads_36 : zget kd_X12_countReads 36 = vb_X12_countReads_36.map vq ++ vrest kd_X12_countReads (some 40) := rfl
def vb_X12_countReads_40 : List VE := [(40, 0, 41, 0, 0), (41, 49, 44, 12, 20), (44, 1, 45, 3, 0), (45, 51, 46, 0, 0), (46, 1, 47, 1, 0), (47, 44, 50, 54, 0), (50, 7, 51, 1, 0), (51, 36, 54, 55, 0)]
theorem ve_X12_countReads_40 : zget kd_X12_countReads 40 = vb_X12_countReads_40.map vq ++ vrest kd_X12_countReads (some 54) := rfl
def vb_X12_countReads_54 : List VE := [(54, 7, 55, 0, 0)]
theorem ve_X12_countReads_54 : zget kd_X12_countReads 54 = vb_X12_countReads_54.map vq ++ vrest kd_X12_countReads (some 55) := rfl
def vb_X12_countReads_55 : List VE := [(55, 14, 56, 0, 0), (56, 3, 57, 2, 0), (57, 6, 60, 3, 1), (60, 36, 63, 8, 0)]
theorem ve_X12_countReads_55 : zget kd_X12_countReads 55 = vb_X12_countReads_55.map vq ++ vrest kd_X12_countReads (some 63) := rfl
def vb_X12_countReads_63 : List VE := [(63, 1, 64, 2, 0), (64, 62, 65, 0, 0)]
theorem ve_X12_countReads_63 : zget kd_X12_countReads 63 = vb_X12_countReads_63.map vq ++ vrest kd_X12_countReads (none) := rfl
def vb_X12_is_0 : List VE := [(0, 1, 1, 1, 0), (1, 110, 72, 0, 0)]
theorem ve_X12_is_0 : zget kd_X12_is 0 = vb_X12_is_0.map vq ++ vrest kd_X12_is (some 72) := rfl
def vb_X12_is_72 : List VE := [(72, 0, 73, 0, 0), (73, 49, 76, 12, 0), (76, 7, 77, 0, 0), (77, 51, 78, 0, 0), (78, 62, 79, 0, 0)]
theorem ve_X12_is_72 : zget kd_X12_is 72 = vb_X12_is_72.map vq ++ vrest kd_X12_is (some 79) := rfl
def vb_X12_is_79 : List VE := [(79, 0, 80, 0, 0), (80, 49, 83, 12, 0), (83, 7, 84, 2, 0), (84, 51, 85, 0, 0), (85, 62, 86, 0, 0)]
theorem ve_X12_is_79 : zget kd_X12_is 79 = vb_X12_is_79.map vq ++ vrest kd_X12_is (some 86) := rfl
def vb_X12_is_86 : List VE := [(86, 0, 87, 0, 0), (87, 49, 90, 12, 0), (90, 7, 91, 1, 0), (91, 51, 92, 0, 0), (92, 62, 93, 0, 0)]
theorem ve_X12_is_86 : zget kd_X12_is 86 = vb_X12_is_86.map vq ++ vrest kd_X12_is (some 93) := rfl
def vb_X12_is_93 : List VE := [(93, 0, 94, 0, 0), (94, 61, 97, 207, 209), (97, 0, 98, 0, 0), (98, 49, 101, 12, 26), (101, 62, 102, 0, 0)]
theorem ve_X12_is_93 : zget kd_X12_is 93 = vb_X12_is_93.map vq ++ vrest kd_X12_is (some 102) := rfl
def vb_X12_is_102 : List VE := [(102, 0, 103, 0, 0), (103, 49, 106, 12, 0), (106, 7, 107, 3, 0), (107, 51, 108, 0, 0), (108, 62, 109, 0, 0)]
theorem ve_X12_is_102 : zget kd_X12_is 102 = vb_X12_is_102.map vq ++ vrest kd_X12_is (some 109) := rfl
def vb_X12_is_109 : List VE := [(109, 0, 110, 0, 0), (110, 49, 113, 12, 0), (113, 7, 114, 4, 0), (114, 51, 115, 0, 0), (115, 62, 116, 0, 0)]
theorem ve_X12_is_109 : zget kd_X12_is 109 = vb_X12_is_109.map vq ++ vrest kd_X12_is (some 116) := rfl
def vb_X12_is_116 : List VE := [(116, 0, 117, 0, 0), (117, 49, 120, 12, 0), (120, 7, 121, 5, 0), (121, 51, 122, 0, 0), (122, 62, 123, 0, 0)]
theorem ve_X12_is_116 : zget kd_X12_is 116 = vb_X12_is_116.map vq ++ vrest kd_X12_is (some 123) := rfl
def vb_X12_is_123 : List VE := [(123, 0, 124, 0, 0), (124, 49, 127, 12, 2), (127, 62, 128, 0, 0)]
theorem ve_X12_is_123 : zget kd_X12_is 123 = vb_X12_is_123.map vq ++ vrest kd_X12_is (some 128) := rfl
def vb_X12_is_128 : List VE := [(128, 0, 129, 0, 0), (129, 49, 132, 12, 4), (132, 62, 133, 0, 0)]
theorem ve_X12_is_128 : zget kd_X12_is 128 = vb_X12_is_128.map vq ++ vrest kd_X12_is (some 133) := rfl
def vb_X12_is_133 : List VE := [(133, 0, 134, 0, 0), (134, 7, 135, 0, 0), (135, 61, 138, 209, 210), (138, 62, 139, 0, 0)]
theorem ve_X12_is_133 : zget kd_X12_is 133 = vb_X12_is_133.map vq ++ vrest kd_X12_is (some 139) := rfl
def vb_X12_is_139 : List VE := [(139, 0, 140, 0, 0), (140, 8, 142, 4294967294, 0), (142, 61, 145, 209, 210), (145, 62, 146, 0, 0)]
theorem ve_X12_is_139 : zget kd_X12_is 139 = vb_X12_is_139.map vq ++ vrest kd_X12_is (some 146) := rfl
def vb_X12_is_146 : List VE := [(146, 0, 147, 0, 0), (147, 8, 149, 4294967293, 0), (149, 61, 152, 209, 210), (152, 62, 153, 0, 0)]
theorem ve_X12_is_146 : zget kd_X12_is 146 = vb_X12_is_146.map vq ++ vrest kd_X12_is (some 153) := rfl
def vb_X12_is_153 : List VE := [(153, 0, 154, 0, 0), (154, 49, 157, 12, 0), (157, 8, 159, 8, 0), (159, 51, 160, 0, 0), (160, 62, 161, 0, 0)]
theorem ve_X12_is_153 : zget kd_X12_is 153 = vb_X12_is_153.map vq ++ vrest kd_X12_is (some 161) := rfl
def vb_X12_is_161 : List VE := [(161, 0, 162, 0, 0), (162, 49, 165, 12, 0), (165, 8, 167, 9, 0), (167, 51, 168, 0, 0), (168, 62, 169, 0, 0)]
theorem ve_X12_is_161 : zget kd_X12_is 161 = vb_X12_is_161.map vq ++ vrest kd_X12_is (some 169) := rfl
def vb_X12_is_169 : List VE := [(169, 7, 170, 4294967295, 0), (170, 62, 171, 0, 0)]
theorem ve_X12_is_169 : zget kd_X12_is 169 = vb_X12_is_169.map vq ++ vrest kd_X12_is (none) := rfl
def vb_X12_bill_0 : List VE := [(0, 0, 1, 0, 0), (1, 1, 2, 1, 0), (2, 61, 5, 198, 210), (5, 38, 8, 10, 0), (8, 7, 9, 4294967295, 0), (9, 62, 10, 0, 0)]
theorem ve_X12_bill_0 : zget kd_X12_bill 0 = vb_X12_bill_0.map vq ++ vrest kd_X12_bill (some 10) := rfl
def vb_X12_bill_10 : List VE := [(10, 1, 11, 1, 0), (11, 60, 14, 174, 1), (14, 3, 15, 3, 0), (15, 1, 16, 2, 0), (16, 111, 52, 0, 0)]
theorem ve_X12_bill_10 : zget kd_X12_bill 10 = vb_X12_bill_10.map vq ++ vrest kd_X12_bill (some 52) := rfl
def vb_X12_bill_52 : List VE := [(52, 0, 53, 0, 0), (53, 49, 56, 12, 0), (56, 1, 57, 3, 0), (57, 8, 59, 9, 0), (59, 14, 60, 0, 0), (60, 51, 61, 0, 0), (61, 62, 62, 0, 0)]
theorem ve_X12_bill_52 : zget kd_X12_bill 52 = vb_X12_bill_52.map vq ++ vrest kd_X12_bill (some 62) := rfl
def vb_X12_bill_62 : List VE := [(62, 0, 63, 0, 0), (63, 49, 66, 12, 0), (66, 1, 67, 3, 0), (67, 8, 69, 10, 0), (69, 14, 70, 0, 0), (70, 51, 71, 0, 0), (71, 62, 72, 0, 0)]
theorem ve_X12_bill_62 : zget kd_X12_bill 62 = vb_X12_bill_62.map vq ++ vrest kd_X12_bill (some 72) := rfl
def vb_X12_bill_72 : List VE := [(72, 0, 73, 0, 0), (73, 49, 76, 12, 0), (76, 1, 77, 3, 0), (77, 7, 78, 0, 0), (78, 14, 79, 0, 0), (79, 51, 80, 0, 0), (80, 62, 81, 0, 0)]
theorem ve_X12_bill_72 : zget kd_X12_bill 72 = vb_X12_bill_72.map vq ++ vrest kd_X12_bill (some 81) := rfl
def vb_X12_bill_81 : List VE := [(81, 0, 82, 0, 0), (82, 49, 85, 12, 0), (85, 1, 86, 3, 0), (86, 8, 88, 13, 0), (88, 14, 89, 0, 0), (89, 51, 90, 0, 0), (90, 62, 91, 0, 0)]
theorem ve_X12_bill_81 : zget kd_X12_bill 81 = vb_X12_bill_81.map vq ++ vrest kd_X12_bill (some 91) := rfl
def vb_X12_bill_91 : List VE := [(91, 0, 92, 0, 0), (92, 49, 95, 12, 0), (95, 1, 96, 3, 0), (96, 8, 98, 11, 0), (98, 14, 99, 0, 0), (99, 51, 100, 0, 0), (100, 62, 101, 0, 0)]
theorem ve_X12_bill_91 : zget kd_X12_bill 91 = vb_X12_bill_91.map vq ++ vrest kd_X12_bill (some 101) := rfl
def vb_X12_bill_101 : List VE := [(101, 1, 102, 2, 0), (102, 8, 104, 10, 0), (104, 8, 106, 9, 0), (106, 0, 107, 0, 0), (107, 49, 110, 12, 0), (110, 1, 111, 3, 0), (111, 7, 112, 0, 0), (112, 14, 113, 0, 0), (113, 51, 114, 0, 0), (114, 14, 115, 0, 0), (115, 60, 118, 156, 3), (118, 37, 121, 137, 0), (121, 0, 122, 0, 0), (122, 49, 125, 12, 0), (125, 1, 126, 3, 0), (126, 7, 127, 1, 0), (127, 14, 128, 0, 0), (128, 1, 129, 2, 0), (129, 14, 130, 0, 0), (130, 8, 132, 10, 0), (132, 15, 133, 0, 0), (133, 51, 134, 0, 0), (134, 36, 137, 138, 0)]
theorem ve_X12_bill_101 : zget kd_X12_bill 101 = vb_X12_bill_101.map vq ++ vrest kd_X12_bill (some 137) := rfl
def vb_X12_bill_137 : List VE := [(137, 7, 138, 4294967295, 0)]
theorem ve_X12_bill_137 : zget kd_X12_bill 137 = vb_X12_bill_137.map vq ++ vrest kd_X12_bill (some 138) := rfl
def vb_X12_bill_138 : List VE := [(138, 62, 139, 0, 0)]
theorem ve_X12_bill_138 : zget kd_X12_bill 138 = vb_X12_bill_138.map vq ++ vrest kd_X12_bill (none) := rfl
def vb_X12_line_0 : List VE := [(0, 0, 1, 0, 0), (1, 1, 2, 1, 0), (2, 61, 5, 199, 210), (5, 38, 8, 10, 0), (8, 7, 9, 4294967295, 0), (9, 62, 10, 0, 0)]
theorem ve_X12_line_0 : zget kd_X12_line 0 = vb_X12_line_0.map vq ++ vrest kd_X12_line (some 10) := rfl
def vb_X12_line_10 : List VE := [(10, 1, 11, 1, 0), (11, 60, 14, 175, 1), (14, 3, 15, 3, 0), (15, 1, 16, 2, 0), (16, 112, 48, 0, 0)]
theorem ve_X12_line_10 : zget kd_X12_line 10 = vb_X12_line_10.map vq ++ vrest kd_X12_line (some 48) := rfl
def vb_X12_line_48 : List VE := [(48, 0, 49, 0, 0), (49, 49, 52, 12, 0), (52, 1, 53, 3, 0), (53, 7, 54, 0, 0), (54, 14, 55, 0, 0), (55, 51, 56, 0, 0), (56, 62, 57, 0, 0)]
theorem ve_X12_line_48 : zget kd_X12_line 48 = vb_X12_line_48.map vq ++ vrest kd_X12_line (some 57) := rfl
def vb_X12_line_57 : List VE := [(57, 0, 58, 0, 0), (58, 49, 61, 12, 0), (61, 1, 62, 3, 0), (62, 7, 63, 1, 0), (63, 14, 64, 0, 0), (64, 51, 65, 0, 0), (65, 62, 66, 0, 0)]
theorem ve_X12_line_57 : zget kd_X12_line 57 = vb_X12_line_57.map vq ++ vrest kd_X12_line (some 66) := rfl
def vb_X12_line_66 : List VE := [(66, 0, 67, 0, 0), (67, 49, 70, 12, 0), (70, 1, 71, 3, 0), (71, 7, 72, 2, 0), (72, 14, 73, 0, 0), (73, 51, 74, 0, 0), (74, 62, 75, 0, 0)]
theorem ve_X12_line_66 : zget kd_X12_line 66 = vb_X12_line_66.map vq ++ vrest kd_X12_line (some 75) := rfl
def vb_X12_line_75 : List VE := [(75, 0, 76, 0, 0), (76, 49, 79, 12, 0), (79, 1, 80, 3, 0), (80, 7, 81, 3, 0), (81, 14, 82, 0, 0), (82, 51, 83, 0, 0), (83, 62, 84, 0, 0)]
theorem ve_X12_line_75 : zget kd_X12_line 75 = vb_X12_line_75.map vq ++ vrest kd_X12_line (some 84) := rfl
def vb_X12_line_84 : List VE := [(84, 1, 85, 2, 0), (85, 8, 87, 10, 0), (87, 8, 89, 9, 0), (89, 0, 90, 0, 0), (90, 49, 93, 12, 0), (93, 1, 94, 3, 0), (94, 7, 95, 3, 0), (95, 14, 96, 0, 0), (96, 51, 97, 0, 0), (97, 14, 98, 0, 0), (98, 60, 101, 156, 3), (101, 37, 104, 120, 0), (104, 0, 105, 0, 0), (105, 49, 108, 12, 0), (108, 1, 109, 3, 0), (109, 7, 110, 4, 0), (110, 14, 111, 0, 0), (111, 1, 112, 2, 0), (112, 14, 113, 0, 0), (113, 8, 115, 10, 0), (115, 15, 116, 0, 0), (116, 51, 117, 0, 0), (117, 36, 120, 121, 0)]
theorem ve_X12_line_84 : zget kd_X12_line 84 = vb_X12_line_84.map vq ++ vrest kd_X12_line (some 120) := rfl
def vb_X12_line_120 : List VE := [(120, 7, 121, 4294967295, 0)]
theorem ve_X12_line_120 : zget kd_X12_line 120 = vb_X12_line_120.map vq ++ vrest kd_X12_line (some 121) := rfl
def vb_X12_line_121 : List VE := [(121, 62, 122, 0, 0)]
theorem ve_X12_line_121 : zget kd_X12_line 121 = vb_X12_line_121.map vq ++ vrest kd_X12_line (none) := rfl
def vb_X12_apartFrom_0 : List VE := [(0, 1, 1, 1, 0), (1, 8, 3, 12, 0), (3, 46, 6, 13, 0), (6, 0, 7, 0, 0), (7, 1, 8, 1, 0), (8, 1, 9, 2, 0), (9, 61, 12, 197, 211), (12, 62, 13, 0, 0)]
theorem ve_X12_apartFrom_0 : zget kd_X12_apartFrom 0 = vb_X12_apartFrom_0.map vq ++ vrest kd_X12_apartFrom (some 13) := rfl
def vb_X12_apartFrom_13 : List VE := [(13, 0, 14, 0, 0), (14, 49, 17, 12, 21), (17, 1, 18, 1, 0), (18, 8, 20, 12, 0), (20, 15, 21, 0, 0), (21, 51, 22, 0, 0), (22, 60, 25, 175, 1), (25, 3, 26, 3, 0), (26, 0, 27, 0, 0), (27, 1, 28, 3, 0), (28, 7, 29, 3, 0), (29, 14, 30, 0, 0), (30, 1, 31, 3, 0), (31, 7, 32, 4, 0), (32, 14, 33, 0, 0), (33, 1, 34, 2, 0), (34, 60, 37, 174, 1), (37, 7, 38, 0, 0), (38, 14, 39, 0, 0), (39, 1, 40, 2, 0), (40, 60, 43, 174, 1), (43, 7, 44, 1, 0), (44, 14, 45, 0, 0), (45, 61, 48, 195, 213), (48, 62, 49, 0, 0)]
theorem ve_X12_apartFrom_13 : zget kd_X12_apartFrom 13 = vb_X12_apartFrom_13.map vq ++ vrest kd_X12_apartFrom (none) := rfl
def vb_X12_isSource_0 : List VE := [(0, 1, 1, 1, 0), (1, 8, 3, 12, 0), (3, 46, 6, 24, 0), (6, 1, 7, 1, 0), (7, 0, 8, 0, 0), (8, 49, 11, 12, 0), (11, 7, 12, 0, 0), (12, 51, 13, 0, 0), (13, 46, 16, 20, 0), (16, 7, 17, 1, 0), (17, 36, 20, 40, 0)]
theorem ve_X12_isSource_0 : zget kd_X12_isSource 0 = vb_X12_isSource_0.map vq ++ vrest kd_X12_isSource (some 20) := rfl
def vb_X12_isSource_20 : List VE := [(20, 7, 21, 0, 0), (21, 36, 24, 40, 0)]
theorem ve_X12_isSource_20 : zget kd_X12_isSource 20 = vb_X12_isSource_20.map vq ++ vrest kd_X12_isSource (some 24) := rfl
def vb_X12_isSource_24 : List VE := [(24, 1, 25, 1, 0), (25, 8, 27, 12, 0), (27, 0, 28, 0, 0), (28, 49, 31, 12, 26), (31, 14, 32, 0, 0), (32, 46, 35, 39, 0), (35, 7, 36, 1, 0), (36, 36, 39, 40, 0)]
theorem ve_X12_isSource_24 : zget kd_X12_isSource 24 = vb_X12_isSource_24.map vq ++ vrest kd_X12_isSource (some 39) := rfl
def vb_X12_isSource_39 : List VE := [(39, 7, 40, 0, 0)]
theorem ve_X12_isSource_39 : zget kd_X12_isSource 39 = vb_X12_isSource_39.map vq ++ vrest kd_X12_isSource (some 40) := rfl
def vb_X12_isSource_40 : List VE := [(40, 62, 41, 2, 0)]
theorem ve_X12_isSource_40 : zget kd_X12_isSource 40 = vb_X12_isSource_40.map vq ++ vrest kd_X12_isSource (none) := rfl
def vb_X12_layShort_0 : List VE := [(0, 0, 1, 0, 0), (1, 61, 4, 207, 209), (4, 0, 5, 0, 0), (5, 7, 6, 0, 0), (6, 50, 9, 12, 31), (9, 0, 10, 0, 0), (10, 7, 11, 0, 0), (11, 50, 14, 12, 32), (14, 7, 15, 0, 0), (15, 3, 16, 1, 0)]
theorem ve_X12_layShort_0 : zget kd_X12_layShort 0 = vb_X12_layShort_0.map vq ++ vrest kd_X12_layShort (some 16) := rfl
def vb_X12_layShort_16 : List VE := [(16, 1, 17, 1, 0), (17, 8, 19, 72, 0), (19, 46, 22, 89, 0), (22, 0, 23, 0, 0), (23, 49, 26, 12, 27), (26, 1, 27, 1, 0), (27, 1, 28, 1, 0), (28, 8, 30, 12, 0), (30, 46, 33, 64, 0), (33, 0, 34, 0, 0), (34, 1, 35, 1, 0), (35, 61, 38, 198, 210), (38, 37, 41, 60, 0), (41, 7, 42, 0, 0), (42, 0, 43, 0, 0), (43, 49, 46, 12, 25), (46, 1, 47, 1, 0), (47, 51, 48, 0, 0), (48, 0, 49, 0, 0), (49, 1, 50, 1, 0), (50, 61, 53, 208, 210), (53, 15, 54, 0, 0), (54, 60, 57, 192, 2), (57, 36, 60, 82, 0)]
theorem ve_X12_layShort_16 : zget kd_X12_layShort 16 = vb_X12_layShort_16.map vq ++ vrest kd_X12_layShort (some 60) := rfl
def vb_X12_layShort_60 : List VE := [(60, 7, 61, 0, 0), (61, 36, 64, 82, 0)]
theorem ve_X12_layShort_60 : zget kd_X12_layShort 60 = vb_X12_layShort_60.map vq ++ vrest kd_X12_layShort (some 64) := rfl
def vb_X12_layShort_64 : List VE := [(64, 0, 65, 0, 0), (65, 1, 66, 1, 0), (66, 61, 69, 214, 210), (69, 37, 72, 81, 0), (72, 0, 73, 0, 0), (73, 49, 76, 12, 25), (76, 1, 77, 1, 0), (77, 51, 78, 0, 0), (78, 36, 81, 82, 0)]
theorem ve_X12_layShort_64 : zget kd_X12_layShort 64 = vb_X12_layShort_64.map vq ++ vrest kd_X12_layShort (some 81) := rfl
def vb_X12_layShort_81 : List VE := [(81, 7, 82, 0, 0)]
theorem ve_X12_layShort_81 : zget kd_X12_layShort 81 = vb_X12_layShort_81.map vq ++ vrest kd_X12_layShort (some 82) := rfl
def vb_X12_layShort_82 : List VE := [(82, 52, 83, 0, 0), (83, 6, 86, 1, 1), (86, 36, 89, 16, 0)]
theorem ve_X12_layShort_82 : zget kd_X12_layShort 82 = vb_X12_layShort_82.map vq ++ vrest kd_X12_layShort (some 89) := rfl
def vb_X12_layShort_89 : List VE := [(89, 7, 90, 0, 0), (90, 3, 91, 1, 0)]
theorem ve_X12_layShort_89 : zget kd_X12_layShort 89 = vb_X12_layShort_89.map vq ++ vrest kd_X12_layShort (some 91) := rfl
def vb_X12_layShort_91 : List VE := [(91, 1, 92, 1, 0), (92, 8, 94, 12, 0), (94, 46, 97, 137, 0), (97, 0, 98, 0, 0), (98, 49, 101, 12, 28), (101, 1, 102, 1, 0), (102, 0, 103, 0, 0), (103, 1, 104, 1, 0), (104, 61, 107, 198, 210), (107, 37, 110, 129, 0), (110, 7, 111, 0, 0), (111, 0, 112, 0, 0), (112, 1, 113, 1, 0), (113, 61, 116, 208, 210), (116, 0, 117, 0, 0), (117, 49, 120, 12, 25), (120, 1, 121, 1, 0), (121, 51, 122, 0, 0), (122, 15, 123, 0, 0), (123, 60, 126, 192, 2), (126, 36, 129, 130, 0)]
theorem ve_X12_layShort_91 : zget kd_X12_layShort 91 = vb_X12_layShort_91.map vq ++ vrest kd_X12_layShort (some 129) := rfl
def vb_X12_layShort_129 : List VE := [(129, 7, 130, 0, 0)]
theorem ve_X12_layShort_129 : zget kd_X12_layShort 129 = vb_X12_layShort_129.map vq ++ vrest kd_X12_layShort (some 130) := rfl
def vb_X12_layShort_130 : List VE := [(130, 52, 131, 0, 0), (131, 6, 134, 1, 1), (134, 36, 137, 91, 0)]
theorem ve_X12_layShort_130 : zget kd_X12_layShort 130 = vb_X12_layShort_130.map vq ++ vrest kd_X12_layShort (some 137) := rfl
def vb_X12_layShort_137 : List VE := [(137, 7, 138, 0, 0), (138, 3, 139, 1, 0)]
theorem ve_X12_layShort_137 : zget kd_X12_layShort 137 = vb_X12_layShort_137.map vq ++ vrest kd_X12_layShort (some 139) := rfl
def vb_X12_layShort_139 : List VE := [(139, 1, 140, 1, 0), (140, 9, 143, 864, 0), (143, 46, 146, 204, 0), (146, 1, 147, 1, 0), (147, 8, 149, 12, 0), (149, 17, 150, 0, 0), (150, 3, 151, 2, 0), (151, 1, 152, 1, 0), (152, 8, 154, 12, 0), (154, 18, 155, 0, 0), (155, 3, 156, 3, 0), (156, 0, 157, 0, 0), (157, 49, 160, 12, 29), (160, 1, 161, 1, 0), (161, 7, 162, 0, 0), (162, 52, 163, 0, 0), (163, 0, 164, 0, 0), (164, 49, 167, 12, 30), (167, 1, 168, 1, 0), (168, 0, 169, 0, 0), (169, 49, 172, 12, 27), (172, 1, 173, 2, 0), (173, 51, 174, 0, 0), (174, 42, 177, 195, 0), (177, 0, 178, 0, 0), (178, 49, 181, 12, 28), (181, 1, 182, 3, 0), (182, 51, 183, 0, 0), (183, 42, 186, 195, 0), (186, 0, 187, 0, 0), (187, 1, 188, 2, 0), (188, 1, 189, 3, 0), (189, 61, 192, 213, 211), (192, 36, 195, 197, 0)]
theorem ve_X12_layShort_139 : zget kd_X12_layShort 139 = vb_X12_layShort_139.map vq ++ vrest kd_X12_layShort (some 195) := rfl
def vb_X12_layShort_195 : List VE := [(195, 8, 197, 99, 0)]
theorem ve_X12_layShort_195 : zget kd_X12_layShort 195 = vb_X12_layShort_195.map vq ++ vrest kd_X12_layShort (some 197) := rfl
def vb_X12_layShort_197 : List VE := [(197, 52, 198, 0, 0), (198, 6, 201, 1, 1), (201, 36, 204, 139, 0)]
theorem ve_X12_layShort_197 : zget kd_X12_layShort 197 = vb_X12_layShort_197.map vq ++ vrest kd_X12_layShort (some 204) := rfl
def vb_X12_layShort_204 : List VE := [(204, 65, 205, 0, 0)]
theorem ve_X12_layShort_204 : zget kd_X12_layShort 204 = vb_X12_layShort_204.map vq ++ vrest kd_X12_layShort (none) := rfl
def vb_X12_layMatched_0 : List VE := [(0, 0, 1, 0, 0), (1, 61, 4, 215, 209), (4, 7, 5, 0, 0), (5, 3, 6, 1, 0)]
theorem ve_X12_layMatched_0 : zget kd_X12_layMatched 0 = vb_X12_layMatched_0.map vq ++ vrest kd_X12_layMatched (some 6) := rfl
def vb_X12_layMatched_6 : List VE := [(6, 1, 7, 1, 0), (7, 0, 8, 0, 0), (8, 49, 11, 12, 0), (11, 7, 12, 4, 0), (12, 51, 13, 0, 0), (13, 47, 16, 127, 0), (16, 7, 17, 0, 0), (17, 3, 18, 2, 0)]
theorem ve_X12_layMatched_6 : zget kd_X12_layMatched 6 = vb_X12_layMatched_6.map vq ++ vrest kd_X12_layMatched (some 18) := rfl
def vb_X12_layMatched_18 : List VE := [(18, 1, 19, 2, 0), (19, 9, 22, 864, 0), (22, 46, 25, 121, 0), (25, 0, 26, 0, 0), (26, 49, 29, 12, 30), (29, 1, 30, 2, 0), (30, 51, 31, 0, 0), (31, 1, 32, 1, 0), (32, 43, 35, 38, 0), (35, 36, 38, 115, 0)]
theorem ve_X12_layMatched_18 : zget kd_X12_layMatched 18 = vb_X12_layMatched_18.map vq ++ vrest kd_X12_layMatched (some 38) := rfl
def vb_X12_layMatched_38 : List VE := [(38, 0, 39, 0, 0), (39, 49, 42, 12, 27), (42, 1, 43, 2, 0), (43, 8, 45, 12, 0), (45, 17, 46, 0, 0), (46, 51, 47, 0, 0), (47, 0, 48, 0, 0), (48, 49, 51, 12, 28), (51, 1, 52, 2, 0), (52, 8, 54, 12, 0), (54, 18, 55, 0, 0), (55, 51, 56, 0, 0), (56, 60, 59, 191, 2), (59, 3, 60, 3, 0), (60, 0, 61, 0, 0), (61, 49, 64, 12, 27), (64, 1, 65, 2, 0), (65, 8, 67, 12, 0), (67, 17, 68, 0, 0), (68, 34, 69, 0, 0), (69, 51, 70, 0, 0), (70, 1, 71, 3, 0), (71, 15, 72, 0, 0), (72, 52, 73, 0, 0), (73, 0, 74, 0, 0), (74, 49, 77, 12, 28), (77, 1, 78, 2, 0), (78, 8, 80, 12, 0), (80, 18, 81, 0, 0), (81, 34, 82, 0, 0), (82, 51, 83, 0, 0), (83, 1, 84, 3, 0), (84, 15, 85, 0, 0), (85, 52, 86, 0, 0), (86, 0, 87, 0, 0), (87, 49, 90, 12, 29), (90, 1, 91, 2, 0), (91, 1, 92, 3, 0), (92, 52, 93, 0, 0), (93, 0, 94, 0, 0), (94, 33, 95, 0, 0), (95, 49, 98, 12, 31), (98, 1, 99, 3, 0), (99, 14, 100, 0, 0), (100, 50, 103, 12, 31), (103, 0, 104, 0, 0), (104, 33, 105, 0, 0), (105, 49, 108, 12, 32), (108, 1, 109, 3, 0), (109, 1, 110, 1, 0), (110, 16, 111, 0, 0), (111, 14, 112, 0, 0), (112, 50, 115, 12, 32)]
theorem ve_X12_layMatched_38 : zget kd_X12_layMatched 38 = vb_X12_layMatched_38.map vq ++ vrest kd_X12_layMatched (some 115) := rfl
def vb_X12_layMatched_115 : List VE := [(115, 6, 118, 2, 1), (118, 36, 121, 18, 0)]
theorem ve_X12_layMatched_115 : zget kd_X12_layMatched 115 = vb_X12_layMatched_115.map vq ++ vrest kd_X12_layMatched (some 121) := rfl
def vb_X12_layMatched_121 : List VE := [(121, 6, 124, 1, 1), (124, 36, 127, 6, 0)]
theorem ve_X12_layMatched_121 : zget kd_X12_layMatched 121 = vb_X12_layMatched_121.map vq ++ vrest kd_X12_layMatched (some 127) := rfl
def vb_X12_layMatched_127 : List VE := [(127, 65, 128, 0, 0)]
theorem ve_X12_layMatched_127 : zget kd_X12_layMatched 127 = vb_X12_layMatched_127.map vq ++ vrest kd_X12_layMatched (none) := rfl
def vb_X12_matchedTo_0 : List VE := [(0, 7, 1, 0, 0), (1, 3, 2, 2, 0), (2, 7, 3, 0, 0), (3, 3, 4, 3, 0)]
theorem ve_X12_matchedTo_0 : zget kd_X12_matchedTo 0 = vb_X12_matchedTo_0.map vq ++ vrest kd_X12_matchedTo (some 4) := rfl
def vb_X12_matchedTo_4 : List VE := [(4, 1, 5, 3, 0), (5, 8, 7, 72, 0), (7, 46, 10, 30, 0), (10, 1, 11, 2, 0), (11, 0, 12, 0, 0), (12, 49, 15, 12, 29), (15, 8, 17, 12, 0), (17, 1, 18, 3, 0), (18, 16, 19, 0, 0), (19, 1, 20, 1, 0), (20, 14, 21, 0, 0), (21, 51, 22, 0, 0), (22, 14, 23, 0, 0), (23, 3, 24, 2, 0), (24, 6, 27, 3, 1), (27, 36, 30, 4, 0)]
theorem ve_X12_matchedTo_4 : zget kd_X12_matchedTo 4 = vb_X12_matchedTo_4.map vq ++ vrest kd_X12_matchedTo (some 30) := rfl
def vb_X12_matchedTo_30 : List VE := [(30, 1, 31, 2, 0), (31, 62, 32, 0, 0)]
theorem ve_X12_matchedTo_30 : zget kd_X12_matchedTo 30 = vb_X12_matchedTo_30.map vq ++ vrest kd_X12_matchedTo (none) := rfl
def vb_X12_tally_0 : List VE := [(0, 0, 1, 0, 0), (1, 1, 2, 1, 0), (2, 61, 5, 198, 210), (5, 37, 8, 18, 0), (8, 1, 9, 2, 0), (9, 7, 10, 0, 0), (10, 8, 12, 8, 0), (12, 60, 15, 156, 3), (15, 38, 18, 20, 0)]
theorem ve_X12_tally_0 : zget kd_X12_tally 0 = vb_X12_tally_0.map vq ++ vrest kd_X12_tally (some 18) := rfl
def vb_X12_tally_18 : List VE := [(18, 7, 19, 4294967295, 0), (19, 62, 20, 0, 0)]
theorem ve_X12_tally_18 : zget kd_X12_tally 18 = vb_X12_tally_18.map vq ++ vrest kd_X12_tally (some 20) := rfl
def vb_X12_tally_20 : List VE := [(20, 0, 21, 0, 0), (21, 61, 24, 216, 209), (24, 1, 25, 2, 0), (25, 113, 72, 0, 0)]
theorem ve_X12_tally_20 : zget kd_X12_tally 20 = vb_X12_tally_20.map vq ++ vrest kd_X12_tally (some 72) := rfl
def vb_X12_tally_72 : List VE := [(72, 0, 73, 0, 0), (73, 49, 76, 12, 23), (76, 1, 77, 1, 0), (77, 51, 78, 0, 0), (78, 62, 79, 0, 0)]
theorem ve_X12_tally_72 : zget kd_X12_tally 72 = vb_X12_tally_72.map vq ++ vrest kd_X12_tally (some 79) := rfl
def vb_X12_tally_79 : List VE := [(79, 0, 80, 0, 0), (80, 49, 83, 12, 24), (83, 1, 84, 1, 0), (84, 51, 85, 0, 0), (85, 62, 86, 0, 0)]
theorem ve_X12_tally_79 : zget kd_X12_tally 79 = vb_X12_tally_79.map vq ++ vrest kd_X12_tally (some 86) := rfl
def vb_X12_tally_86 : List VE := [(86, 0, 87, 0, 0), (87, 49, 90, 12, 25), (90, 1, 91, 1, 0), (91, 51, 92, 0, 0), (92, 62, 93, 0, 0)]
theorem ve_X12_tally_86 : zget kd_X12_tally 86 = vb_X12_tally_86.map vq ++ vrest kd_X12_tally (some 93) := rfl
def vb_X12_tally_93 : List VE := [(93, 0, 94, 0, 0), (94, 1, 95, 1, 0), (95, 61, 98, 208, 210), (98, 62, 99, 0, 0)]
theorem ve_X12_tally_93 : zget kd_X12_tally 93 = vb_X12_tally_93.map vq ++ vrest kd_X12_tally (some 99) := rfl
def vb_X12_tally_99 : List VE := [(99, 7, 100, 0, 0), (100, 0, 101, 0, 0), (101, 1, 102, 1, 0), (102, 61, 105, 208, 210), (105, 0, 106, 0, 0), (106, 49, 109, 12, 25), (109, 1, 110, 1, 0), (110, 51, 111, 0, 0), (111, 15, 112, 0, 0), (112, 60, 115, 192, 2), (115, 62, 116, 0, 0)]
theorem ve_X12_tally_99 : zget kd_X12_tally 99 = vb_X12_tally_99.map vq ++ vrest kd_X12_tally (some 116) := rfl
def vb_X12_tally_116 : List VE := [(116, 7, 117, 0, 0), (117, 0, 118, 0, 0), (118, 49, 121, 12, 25), (121, 1, 122, 1, 0), (122, 51, 123, 0, 0), (123, 0, 124, 0, 0), (124, 1, 125, 1, 0), (125, 61, 128, 208, 210), (128, 15, 129, 0, 0), (129, 60, 132, 192, 2), (132, 62, 133, 0, 0)]
theorem ve_X12_tally_116 : zget kd_X12_tally 116 = vb_X12_tally_116.map vq ++ vrest kd_X12_tally (some 133) := rfl
def vb_X12_tally_133 : List VE := [(133, 0, 134, 0, 0), (134, 49, 137, 12, 28), (137, 1, 138, 1, 0), (138, 51, 139, 0, 0), (139, 62, 140, 0, 0)]
theorem ve_X12_tally_133 : zget kd_X12_tally 133 = vb_X12_tally_133.map vq ++ vrest kd_X12_tally (some 140) := rfl
def vb_X12_tally_140 : List VE := [(140, 0, 141, 0, 0), (141, 49, 144, 12, 27), (144, 1, 145, 1, 0), (145, 51, 146, 0, 0), (146, 62, 147, 0, 0)]
theorem ve_X12_tally_140 : zget kd_X12_tally 140 = vb_X12_tally_140.map vq ++ vrest kd_X12_tally (some 147) := rfl
def vb_X12_tally_147 : List VE := [(147, 0, 148, 0, 0), (148, 1, 149, 1, 0), (149, 61, 152, 217, 210), (152, 62, 153, 0, 0)]
theorem ve_X12_tally_147 : zget kd_X12_tally 147 = vb_X12_tally_147.map vq ++ vrest kd_X12_tally (none) := rfl
def vb_X12_heap_0 : List VE := [(0, 1, 1, 2, 0), (1, 7, 2, 0, 0), (2, 7, 3, 4, 0), (3, 60, 6, 156, 3), (6, 38, 9, 11, 0), (9, 7, 10, 4294967295, 0), (10, 62, 11, 0, 0)]
theorem ve_X12_heap_0 : zget kd_X12_heap 0 = vb_X12_heap_0.map vq ++ vrest kd_X12_heap (some 11) := rfl
def vb_X12_heap_11 : List VE := [(11, 0, 12, 0, 0), (12, 61, 15, 216, 209), (15, 1, 16, 1, 0), (16, 7, 17, 0, 0), (17, 0, 18, 0, 0), (18, 49, 21, 12, 26), (21, 7, 22, 1, 0), (22, 15, 23, 0, 0), (23, 60, 26, 156, 3), (26, 38, 29, 31, 0), (29, 7, 30, 4294967295, 0), (30, 62, 31, 0, 0)]
theorem ve_X12_heap_11 : zget kd_X12_heap 11 = vb_X12_heap_11.map vq ++ vrest kd_X12_heap (some 31) := rfl
def vb_X12_heap_31 : List VE := [(31, 8, 33, 12, 0), (33, 1, 34, 1, 0), (34, 14, 35, 0, 0), (35, 3, 36, 3, 0), (36, 1, 37, 2, 0), (37, 38, 40, 49, 0), (40, 0, 41, 0, 0), (41, 49, 44, 12, 21), (44, 1, 45, 1, 0), (45, 51, 46, 0, 0), (46, 36, 49, 97, 0)]
theorem ve_X12_heap_31 : zget kd_X12_heap 31 = vb_X12_heap_31.map vq ++ vrest kd_X12_heap (some 49) := rfl
def vb_X12_heap_49 : List VE := [(49, 1, 50, 2, 0), (50, 7, 51, 1, 0), (51, 44, 54, 63, 0), (54, 0, 55, 0, 0), (55, 49, 58, 12, 23), (58, 1, 59, 3, 0), (59, 51, 60, 0, 0), (60, 36, 63, 97, 0)]
theorem ve_X12_heap_49 : zget kd_X12_heap 49 = vb_X12_heap_49.map vq ++ vrest kd_X12_heap (some 63) := rfl
def vb_X12_heap_63 : List VE := [(63, 1, 64, 2, 0), (64, 7, 65, 2, 0), (65, 44, 68, 77, 0), (68, 0, 69, 0, 0), (69, 49, 72, 12, 24), (72, 1, 73, 3, 0), (73, 51, 74, 0, 0), (74, 36, 77, 97, 0)]
theorem ve_X12_heap_63 : zget kd_X12_heap 63 = vb_X12_heap_63.map vq ++ vrest kd_X12_heap (some 77) := rfl
def vb_X12_heap_77 : List VE := [(77, 1, 78, 2, 0), (78, 7, 79, 3, 0), (79, 44, 82, 91, 0), (82, 0, 83, 0, 0), (83, 49, 86, 12, 25), (86, 1, 87, 3, 0), (87, 51, 88, 0, 0), (88, 36, 91, 97, 0)]
theorem ve_X12_heap_77 : zget kd_X12_heap 77 = vb_X12_heap_77.map vq ++ vrest kd_X12_heap (some 91) := rfl
def vb_X12_heap_91 : List VE := [(91, 0, 92, 0, 0), (92, 49, 95, 12, 27), (95, 1, 96, 3, 0), (96, 51, 97, 0, 0)]
theorem ve_X12_heap_91 : zget kd_X12_heap 91 = vb_X12_heap_91.map vq ++ vrest kd_X12_heap (some 97) := rfl
def vb_X12_heap_97 : List VE := [(97, 62, 98, 0, 0)]
theorem ve_X12_heap_97 : zget kd_X12_heap 97 = vb_X12_heap_97.map vq ++ vrest kd_X12_heap (none) := rfl
def vb_X12_brought_0 : List VE := [(0, 0, 1, 0, 0), (1, 61, 4, 216, 209), (4, 0, 5, 0, 0), (5, 1, 6, 2, 0), (6, 61, 9, 198, 210), (9, 37, 12, 44, 0), (12, 1, 13, 1, 0), (13, 7, 14, 0, 0), (14, 8, 16, 71, 0), (16, 60, 19, 156, 3), (19, 37, 22, 44, 0), (22, 0, 23, 0, 0), (23, 1, 24, 1, 0), (24, 61, 27, 214, 210), (27, 37, 30, 44, 0), (30, 0, 31, 0, 0), (31, 49, 34, 12, 29), (34, 8, 36, 12, 0), (36, 1, 37, 1, 0), (37, 16, 38, 0, 0), (38, 1, 39, 2, 0), (39, 14, 40, 0, 0), (40, 51, 41, 0, 0), (41, 36, 44, 45, 0)]
theorem ve_X12_brought_0 : zget kd_X12_brought 0 = vb_X12_brought_0.map vq ++ vrest kd_X12_brought (some 44) := rfl
def vb_X12_brought_44 : List VE := [(44, 7, 45, 4294967295, 0)]
theorem ve_X12_brought_44 : zget kd_X12_brought 44 = vb_X12_brought_44.map vq ++ vrest kd_X12_brought (some 45) := rfl
def vb_X12_brought_45 : List VE := [(45, 62, 46, 0, 0)]
theorem ve_X12_brought_45 : zget kd_X12_brought 45 = vb_X12_brought_45.map vq ++ vrest kd_X12_brought (none) := rfl
def vb_X12_matched_0 : List VE := [(0, 1, 1, 1, 0), (1, 7, 2, 0, 0), (2, 7, 3, 1, 0), (3, 60, 6, 156, 3), (6, 38, 9, 11, 0), (9, 7, 10, 4294967295, 0), (10, 62, 11, 0, 0)]
theorem ve_X12_matched_0 : zget kd_X12_matched 0 = vb_X12_matched_0.map vq ++ vrest kd_X12_matched (some 11) := rfl
def vb_X12_matched_11 : List VE := [(11, 0, 12, 0, 0), (12, 61, 15, 216, 209), (15, 1, 16, 1, 0), (16, 38, 19, 26, 0), (19, 0, 20, 0, 0), (20, 49, 23, 12, 31), (23, 36, 26, 30, 0)]
theorem ve_X12_matched_11 : zget kd_X12_matched 11 = vb_X12_matched_11.map vq ++ vrest kd_X12_matched (some 26) := rfl
def vb_X12_matched_26 : List VE := [(26, 0, 27, 0, 0), (27, 49, 30, 12, 32)]
theorem ve_X12_matched_26 : zget kd_X12_matched 26 = vb_X12_matched_26.map vq ++ vrest kd_X12_matched (some 30) := rfl
def vb_X12_matched_30 : List VE := [(30, 62, 31, 0, 0)]
theorem ve_X12_matched_30 : zget kd_X12_matched 30 = vb_X12_matched_30.map vq ++ vrest kd_X12_matched (none) := rfl
def vb_X12_layWays_0 : List VE := [(0, 7, 1, 0, 0), (1, 3, 2, 1, 0)]
theorem ve_X12_layWays_0 : zget kd_X12_layWays 0 = vb_X12_layWays_0.map vq ++ vrest kd_X12_layWays (some 2) := rfl
def vb_X12_layWays_2 : List VE := [(2, 1, 3, 1, 0), (3, 8, 5, 84, 0), (5, 46, 8, 48, 0), (8, 0, 9, 0, 0), (9, 49, 12, 12, 33), (12, 1, 13, 1, 0), (13, 1, 14, 1, 0), (14, 8, 16, 72, 0), (16, 46, 19, 32, 0), (19, 0, 20, 0, 0), (20, 49, 23, 12, 27), (23, 1, 24, 1, 0), (24, 51, 25, 0, 0), (25, 42, 28, 32, 0), (28, 7, 29, 0, 0), (29, 36, 32, 34, 0)]
theorem ve_X12_layWays_2 : zget kd_X12_layWays 2 = vb_X12_layWays_2.map vq ++ vrest kd_X12_layWays (some 32) := rfl
def vb_X12_layWays_32 : List VE := [(32, 10, 34, 1000000, 0)]
theorem ve_X12_layWays_32 : zget kd_X12_layWays 32 = vb_X12_layWays_32.map vq ++ vrest kd_X12_layWays (some 34) := rfl
def vb_X12_layWays_34 : List VE := [(34, 52, 35, 0, 0), (35, 0, 36, 0, 0), (36, 49, 39, 12, 34), (39, 1, 40, 1, 0), (40, 7, 41, 4294967295, 0), (41, 52, 42, 0, 0), (42, 6, 45, 1, 1), (45, 36, 48, 2, 0)]
theorem ve_X12_layWays_34 : zget kd_X12_layWays 34 = vb_X12_layWays_34.map vq ++ vrest kd_X12_layWays (some 48) := rfl
def vb_X12_layWays_48 : List VE := [(48, 7, 49, 1, 0), (49, 3, 50, 1, 0)]
theorem ve_X12_layWays_48 : zget kd_X12_layWays 48 = vb_X12_layWays_48.map vq ++ vrest kd_X12_layWays (some 50) := rfl
def vb_X12_layWays_50 : List VE := [(50, 1, 51, 1, 0), (51, 37, 54, 244, 0), (54, 7, 55, 0, 0), (55, 3, 56, 1, 0), (56, 7, 57, 0, 0), (57, 3, 58, 2, 0)]
theorem ve_X12_layWays_50 : zget kd_X12_layWays 50 = vb_X12_layWays_50.map vq ++ vrest kd_X12_layWays (some 58) := rfl
def vb_X12_layWays_58 : List VE := [(58, 1, 59, 2, 0), (59, 9, 62, 864, 0), (62, 46, 65, 241, 0), (65, 0, 66, 0, 0), (66, 49, 69, 12, 30), (69, 1, 70, 2, 0), (70, 51, 71, 0, 0), (71, 0, 72, 0, 0), (72, 49, 75, 12, 0), (75, 7, 76, 4, 0), (76, 51, 77, 0, 0), (77, 48, 80, 83, 0), (80, 36, 83, 235, 0)]
theorem ve_X12_layWays_58 : zget kd_X12_layWays 58 = vb_X12_layWays_58.map vq ++ vrest kd_X12_layWays (some 83) := rfl
def vb_X12_layWays_83 : List VE := [(83, 1, 84, 2, 0), (84, 8, 86, 12, 0), (86, 17, 87, 0, 0), (87, 3, 88, 3, 0), (88, 8, 90, 72, 0), (90, 1, 91, 2, 0), (91, 8, 93, 12, 0), (93, 18, 94, 0, 0), (94, 14, 95, 0, 0), (95, 3, 97, 4, 0), (97, 0, 98, 0, 0), (98, 49, 101, 12, 33), (101, 1, 102, 3, 0), (102, 51, 103, 0, 0), (103, 10, 105, 1000000, 0), (105, 46, 108, 161, 0), (108, 0, 109, 0, 0), (109, 49, 112, 12, 33), (112, 1, 113, 3, 0), (113, 51, 114, 0, 0), (114, 0, 115, 0, 0), (115, 49, 118, 12, 30), (118, 1, 119, 2, 0), (119, 51, 120, 0, 0), (120, 14, 121, 0, 0), (121, 0, 122, 0, 0), (122, 49, 125, 12, 33), (125, 1, 127, 4, 0), (127, 51, 128, 0, 0), (128, 46, 131, 161, 0), (131, 0, 132, 0, 0), (132, 49, 135, 12, 33), (135, 1, 137, 4, 0), (137, 0, 138, 0, 0), (138, 49, 141, 12, 33), (141, 1, 142, 3, 0), (142, 51, 143, 0, 0), (143, 0, 144, 0, 0), (144, 49, 147, 12, 30), (147, 1, 148, 2, 0), (148, 51, 149, 0, 0), (149, 14, 150, 0, 0), (150, 52, 151, 0, 0), (151, 0, 152, 0, 0), (152, 49, 155, 12, 34), (155, 1, 157, 4, 0), (157, 1, 158, 3, 0), (158, 52, 159, 0, 0), (159, 7, 160, 1, 0), (160, 3, 161, 1, 0)]
theorem ve_X12_layWays_83 : zget kd_X12_layWays 83 = vb_X12_layWays_83.map vq ++ vrest kd_X12_layWays (some 161) := rfl
def vb_X12_layWays_161 : List VE := [(161, 0, 162, 0, 0), (162, 49, 165, 12, 29), (165, 1, 166, 2, 0), (166, 51, 167, 0, 0), (167, 42, 170, 235, 0), (170, 0, 171, 0, 0), (171, 49, 174, 12, 33), (174, 1, 176, 4, 0), (176, 51, 177, 0, 0), (177, 10, 179, 1000000, 0), (179, 46, 182, 235, 0), (182, 0, 183, 0, 0), (183, 49, 186, 12, 33), (186, 1, 188, 4, 0), (188, 51, 189, 0, 0), (189, 0, 190, 0, 0), (190, 49, 193, 12, 30), (193, 1, 194, 2, 0), (194, 51, 195, 0, 0), (195, 15, 196, 0, 0), (196, 0, 197, 0, 0), (197, 49, 200, 12, 33), (200, 1, 201, 3, 0), (201, 51, 202, 0, 0), (202, 46, 205, 235, 0), (205, 0, 206, 0, 0), (206, 49, 209, 12, 33), (209, 1, 210, 3, 0), (210, 0, 211, 0, 0), (211, 49, 214, 12, 33), (214, 1, 216, 4, 0), (216, 51, 217, 0, 0), (217, 0, 218, 0, 0), (218, 49, 221, 12, 30), (221, 1, 222, 2, 0), (222, 51, 223, 0, 0), (223, 15, 224, 0, 0), (224, 52, 225, 0, 0), (225, 0, 226, 0, 0), (226, 49, 229, 12, 34), (229, 1, 230, 3, 0), (230, 1, 232, 4, 0), (232, 52, 233, 0, 0), (233, 7, 234, 1, 0), (234, 3, 235, 1, 0)]
theorem ve_X12_layWays_161 : zget kd_X12_layWays 161 = vb_X12_layWays_161.map vq ++ vrest kd_X12_layWays (some 235) := rfl
def vb_X12_layWays_235 : List VE := [(235, 6, 238, 2, 1), (238, 36, 241, 58, 0)]
theorem ve_X12_layWays_235 : zget kd_X12_layWays 235 = vb_X12_layWays_235.map vq ++ vrest kd_X12_layWays (some 241) := rfl
def vb_X12_layWays_241 : List VE := [(241, 36, 244, 50, 0)]
theorem ve_X12_layWays_241 : zget kd_X12_layWays 241 = vb_X12_layWays_241.map vq ++ vrest kd_X12_layWays (some 244) := rfl
def vb_X12_layWays_244 : List VE := [(244, 65, 245, 0, 0)]
theorem ve_X12_layWays_244 : zget kd_X12_layWays 244 = vb_X12_layWays_244.map vq ++ vrest kd_X12_layWays (none) := rfl
def vb_X12_goAlong_0 : List VE := [(0, 0, 1, 0, 0), (1, 49, 4, 12, 28), (4, 1, 5, 1, 0), (5, 8, 7, 72, 0), (7, 15, 8, 0, 0), (8, 51, 9, 0, 0), (9, 3, 10, 2, 0), (10, 1, 11, 1, 0), (11, 3, 12, 3, 0)]
theorem ve_X12_goAlong_0 : zget kd_X12_goAlong 0 = vb_X12_goAlong_0.map vq ++ vrest kd_X12_goAlong (some 12) := rfl
def vb_X12_goAlong_12 : List VE := [(12, 0, 13, 0, 0), (13, 49, 16, 12, 34), (16, 1, 17, 3, 0), (17, 51, 18, 0, 0), (18, 7, 19, 4294967295, 0), (19, 43, 22, 63, 0), (22, 0, 23, 0, 0), (23, 49, 26, 12, 34), (26, 1, 27, 3, 0), (27, 51, 28, 0, 0), (28, 3, 30, 4, 0), (30, 1, 32, 4, 0), (32, 8, 34, 72, 0), (34, 45, 37, 57, 0), (37, 1, 38, 2, 0), (38, 0, 39, 0, 0), (39, 49, 42, 12, 29), (42, 8, 44, 12, 0), (44, 1, 45, 3, 0), (45, 16, 46, 0, 0), (46, 1, 48, 4, 0), (48, 14, 49, 0, 0), (49, 8, 51, 72, 0), (51, 15, 52, 0, 0), (52, 51, 53, 0, 0), (53, 60, 56, 191, 2), (56, 3, 57, 2, 0)]
theorem ve_X12_goAlong_12 : zget kd_X12_goAlong 12 = vb_X12_goAlong_12.map vq ++ vrest kd_X12_goAlong (some 57) := rfl
def vb_X12_goAlong_57 : List VE := [(57, 1, 59, 4, 0), (59, 3, 60, 3, 0), (60, 36, 63, 12, 0)]
theorem ve_X12_goAlong_57 : zget kd_X12_goAlong 57 = vb_X12_goAlong_57.map vq ++ vrest kd_X12_goAlong (some 63) := rfl
def vb_X12_goAlong_63 : List VE := [(63, 1, 64, 2, 0), (64, 0, 65, 0, 0), (65, 49, 68, 12, 27), (68, 1, 69, 3, 0), (69, 51, 70, 0, 0), (70, 60, 73, 191, 2), (73, 3, 74, 2, 0), (74, 0, 75, 0, 0), (75, 49, 78, 12, 27), (78, 1, 79, 3, 0), (79, 34, 80, 0, 0), (80, 51, 81, 0, 0), (81, 1, 82, 2, 0), (82, 15, 83, 0, 0), (83, 52, 84, 0, 0), (84, 0, 85, 0, 0), (85, 49, 88, 12, 28), (88, 1, 89, 1, 0), (89, 8, 91, 72, 0), (91, 15, 92, 0, 0), (92, 34, 93, 0, 0), (93, 51, 94, 0, 0), (94, 1, 95, 2, 0), (95, 15, 96, 0, 0), (96, 52, 97, 0, 0), (97, 0, 98, 0, 0), (98, 33, 99, 0, 0), (99, 49, 102, 12, 31), (102, 1, 103, 2, 0), (103, 14, 104, 0, 0), (104, 50, 107, 12, 31), (107, 0, 108, 0, 0), (108, 33, 109, 0, 0), (109, 49, 112, 12, 32), (112, 1, 113, 2, 0), (113, 0, 114, 0, 0), (114, 49, 117, 12, 33), (117, 1, 118, 1, 0), (118, 51, 119, 0, 0), (119, 16, 120, 0, 0), (120, 14, 121, 0, 0), (121, 50, 124, 12, 32), (124, 1, 125, 1, 0), (125, 3, 126, 3, 0)]
theorem ve_X12_goAlong_63 : zget kd_X12_goAlong 63 = vb_X12_goAlong_63.map vq ++ vrest kd_X12_goAlong (some 126) := rfl
def vb_X12_goAlong_126 : List VE := [(126, 0, 127, 0, 0), (127, 49, 130, 12, 34), (130, 1, 131, 3, 0), (131, 51, 132, 0, 0), (132, 7, 133, 4294967295, 0), (133, 43, 136, 198, 0), (136, 0, 137, 0, 0), (137, 49, 140, 12, 34), (140, 1, 141, 3, 0), (141, 51, 142, 0, 0), (142, 3, 144, 4, 0), (144, 1, 146, 4, 0), (146, 8, 148, 72, 0), (148, 45, 151, 173, 0), (151, 0, 152, 0, 0), (152, 49, 155, 12, 29), (155, 8, 157, 12, 0), (157, 1, 158, 3, 0), (158, 16, 159, 0, 0), (159, 1, 161, 4, 0), (161, 14, 162, 0, 0), (162, 8, 164, 72, 0), (164, 15, 165, 0, 0), (165, 34, 166, 0, 0), (166, 51, 167, 0, 0), (167, 1, 168, 2, 0), (168, 15, 169, 0, 0), (169, 52, 170, 0, 0), (170, 36, 173, 192, 0)]
theorem ve_X12_goAlong_126 : zget kd_X12_goAlong 126 = vb_X12_goAlong_126.map vq ++ vrest kd_X12_goAlong (some 173) := rfl
def vb_X12_goAlong_173 : List VE := [(173, 0, 174, 0, 0), (174, 49, 177, 12, 29), (177, 8, 179, 12, 0), (179, 1, 181, 4, 0), (181, 16, 182, 0, 0), (182, 1, 183, 3, 0), (183, 14, 184, 0, 0), (184, 8, 186, 72, 0), (186, 15, 187, 0, 0), (187, 34, 188, 0, 0), (188, 51, 189, 0, 0), (189, 1, 190, 2, 0), (190, 14, 191, 0, 0), (191, 52, 192, 0, 0)]
theorem ve_X12_goAlong_173 : zget kd_X12_goAlong 173 = vb_X12_goAlong_173.map vq ++ vrest kd_X12_goAlong (some 192) := rfl
def vb_X12_goAlong_192 : List VE := [(192, 1, 194, 4, 0), (194, 3, 195, 3, 0), (195, 36, 198, 126, 0)]
theorem ve_X12_goAlong_192 : zget kd_X12_goAlong 192 = vb_X12_goAlong_192.map vq ++ vrest kd_X12_goAlong (some 198) := rfl
def vb_X12_goAlong_198 : List VE := [(198, 65, 199, 0, 0)]
theorem ve_X12_goAlong_198 : zget kd_X12_goAlong 198 = vb_X12_goAlong_198.map vq ++ vrest kd_X12_goAlong (none) := rfl
def vb_X12_layBest_0 : List VE := [(0, 0, 1, 0, 0), (1, 61, 4, 215, 209), (4, 7, 5, 1, 0), (5, 3, 6, 1, 0)]
theorem ve_X12_layBest_0 : zget kd_X12_layBest 0 = vb_X12_layBest_0.map vq ++ vrest kd_X12_layBest (some 6) := rfl
def vb_X12_layBest_6 : List VE := [(6, 1, 7, 1, 0), (7, 37, 10, 99, 0), (10, 0, 11, 0, 0), (11, 61, 14, 222, 209), (14, 7, 15, 4294967295, 0), (15, 3, 16, 2, 0), (16, 8, 18, 72, 0), (18, 3, 19, 3, 0)]
theorem ve_X12_layBest_6 : zget kd_X12_layBest 6 = vb_X12_layBest_6.map vq ++ vrest kd_X12_layBest (some 19) := rfl
def vb_X12_layBest_19 : List VE := [(19, 1, 20, 3, 0), (20, 8, 22, 84, 0), (22, 46, 25, 76, 0), (25, 0, 26, 0, 0), (26, 49, 29, 12, 28), (29, 1, 30, 3, 0), (30, 8, 32, 72, 0), (32, 15, 33, 0, 0), (33, 51, 34, 0, 0), (34, 42, 37, 70, 0), (37, 0, 38, 0, 0), (38, 49, 41, 12, 33), (41, 1, 42, 3, 0), (42, 51, 43, 0, 0), (43, 10, 45, 1000000, 0), (45, 46, 48, 70, 0), (48, 1, 49, 2, 0), (49, 7, 50, 4294967295, 0), (50, 43, 53, 68, 0), (53, 0, 54, 0, 0), (54, 49, 57, 12, 33), (57, 1, 58, 3, 0), (58, 51, 59, 0, 0), (59, 0, 60, 0, 0), (60, 49, 63, 12, 33), (63, 1, 64, 2, 0), (64, 51, 65, 0, 0), (65, 46, 68, 70, 0)]
theorem ve_X12_layBest_19 : zget kd_X12_layBest 19 = vb_X12_layBest_19.map vq ++ vrest kd_X12_layBest (some 68) := rfl
def vb_X12_layBest_68 : List VE := [(68, 1, 69, 3, 0), (69, 3, 70, 2, 0)]
theorem ve_X12_layBest_68 : zget kd_X12_layBest 68 = vb_X12_layBest_68.map vq ++ vrest kd_X12_layBest (some 70) := rfl
def vb_X12_layBest_70 : List VE := [(70, 6, 73, 3, 1), (73, 36, 76, 19, 0)]
theorem ve_X12_layBest_70 : zget kd_X12_layBest 70 = vb_X12_layBest_70.map vq ++ vrest kd_X12_layBest (some 76) := rfl
def vb_X12_layBest_76 : List VE := [(76, 1, 77, 2, 0), (77, 7, 78, 4294967295, 0), (78, 43, 81, 85, 0), (81, 7, 82, 1, 0), (82, 36, 85, 86, 0)]
theorem ve_X12_layBest_76 : zget kd_X12_layBest 76 = vb_X12_layBest_76.map vq ++ vrest kd_X12_layBest (some 85) := rfl
def vb_X12_layBest_85 : List VE := [(85, 7, 86, 0, 0)]
theorem ve_X12_layBest_85 : zget kd_X12_layBest 85 = vb_X12_layBest_85.map vq ++ vrest kd_X12_layBest (some 86) := rfl
def vb_X12_layBest_86 : List VE := [(86, 3, 87, 1, 0), (87, 1, 88, 1, 0), (88, 37, 91, 96, 0), (91, 0, 92, 0, 0), (92, 1, 93, 2, 0), (93, 61, 96, 223, 210)]
theorem ve_X12_layBest_86 : zget kd_X12_layBest 86 = vb_X12_layBest_86.map vq ++ vrest kd_X12_layBest (some 96) := rfl
def vb_X12_layBest_96 : List VE := [(96, 36, 99, 6, 0)]
theorem ve_X12_layBest_96 : zget kd_X12_layBest 96 = vb_X12_layBest_96.map vq ++ vrest kd_X12_layBest (some 99) := rfl
def vb_X12_layBest_99 : List VE := [(99, 65, 100, 0, 0)]
theorem ve_X12_layBest_99 : zget kd_X12_layBest 99 = vb_X12_layBest_99.map vq ++ vrest kd_X12_layBest (none) := rfl
def vb_X12_best_0 : List VE := [(0, 1, 1, 1, 0), (1, 7, 2, 0, 0), (2, 7, 3, 1, 0), (3, 60, 6, 156, 3), (6, 38, 9, 11, 0), (9, 7, 10, 4294967295, 0), (10, 62, 11, 0, 0)]
theorem ve_X12_best_0 : zget kd_X12_best 0 = vb_X12_best_0.map vq ++ vrest kd_X12_best (some 11) := rfl
def vb_X12_best_11 : List VE := [(11, 0, 12, 0, 0), (12, 61, 15, 224, 209), (15, 1, 16, 1, 0), (16, 38, 19, 26, 0), (19, 0, 20, 0, 0), (20, 49, 23, 12, 31), (23, 36, 26, 30, 0)]
theorem ve_X12_best_11 : zget kd_X12_best 11 = vb_X12_best_11.map vq ++ vrest kd_X12_best (some 26) := rfl
def vb_X12_best_26 : List VE := [(26, 0, 27, 0, 0), (27, 49, 30, 12, 32)]
theorem ve_X12_best_26 : zget kd_X12_best 26 = vb_X12_best_26.map vq ++ vrest kd_X12_best (some 30) := rfl
def vb_X12_best_30 : List VE := [(30, 62, 31, 0, 0)]
theorem ve_X12_best_30 : zget kd_X12_best 30 = vb_X12_best_30.map vq ++ vrest kd_X12_best (none) := rfl
def vb_X12_remark_0 : List VE := [(0, 0, 1, 0, 0), (1, 1, 2, 1, 0), (2, 61, 5, 198, 210), (5, 37, 8, 45, 0), (8, 1, 9, 2, 0), (9, 7, 10, 0, 0), (10, 7, 11, 3, 0), (11, 60, 14, 156, 3), (14, 37, 17, 45, 0), (17, 1, 18, 3, 0), (18, 7, 19, 0, 0), (19, 9, 22, 999, 0), (22, 60, 25, 156, 3), (25, 37, 28, 45, 0), (28, 0, 29, 0, 0), (29, 49, 32, 12, 0), (32, 1, 33, 1, 0), (33, 60, 36, 174, 1), (36, 8, 38, 13, 0), (38, 14, 39, 0, 0), (39, 51, 40, 0, 0), (40, 8, 42, 6, 0), (42, 44, 45, 47, 0)]
theorem ve_X12_remark_0 : zget kd_X12_remark 0 = vb_X12_remark_0.map vq ++ vrest kd_X12_remark (some 45) := rfl
def vb_X12_remark_45 : List VE := [(45, 7, 46, 4294967295, 0), (46, 62, 47, 0, 0)]
theorem ve_X12_remark_45 : zget kd_X12_remark 45 = vb_X12_remark_45.map vq ++ vrest kd_X12_remark (some 47) := rfl
def vb_X12_remark_47 : List VE := [(47, 0, 48, 0, 0), (48, 61, 51, 158, 209), (51, 1, 52, 1, 0), (52, 60, 55, 174, 1), (55, 3, 57, 4, 0), (57, 0, 58, 0, 0), (58, 49, 61, 12, 0), (61, 1, 63, 4, 0), (63, 8, 65, 13, 0), (65, 14, 66, 0, 0), (66, 51, 67, 0, 0), (67, 3, 69, 5, 0), (69, 0, 70, 0, 0), (70, 49, 73, 12, 0), (73, 1, 75, 4, 0), (75, 8, 77, 14, 0), (77, 14, 78, 0, 0), (78, 7, 79, 2, 0), (79, 1, 81, 5, 0), (81, 16, 82, 0, 0), (82, 14, 83, 0, 0), (83, 1, 84, 2, 0), (84, 52, 85, 0, 0), (85, 0, 86, 0, 0), (86, 49, 89, 12, 0), (89, 1, 91, 4, 0), (91, 8, 93, 14, 0), (93, 14, 94, 0, 0), (94, 7, 95, 2, 0), (95, 1, 97, 5, 0), (97, 16, 98, 0, 0), (98, 14, 99, 0, 0), (99, 7, 100, 1, 0), (100, 14, 101, 0, 0), (101, 1, 102, 3, 0), (102, 52, 103, 0, 0), (103, 0, 104, 0, 0), (104, 49, 107, 12, 0), (107, 1, 109, 4, 0), (109, 8, 111, 13, 0), (111, 14, 112, 0, 0), (112, 1, 114, 5, 0), (114, 7, 115, 1, 0), (115, 14, 116, 0, 0), (116, 52, 117, 0, 0), (117, 1, 119, 5, 0), (119, 7, 120, 1, 0), (120, 14, 121, 0, 0), (121, 62, 122, 0, 0)]
theorem ve_X12_remark_47 : zget kd_X12_remark 47 = vb_X12_remark_47.map vq ++ vrest kd_X12_remark (none) := rfl
def vb_X12_remarked_0 : List VE := [(0, 0, 1, 0, 0), (1, 1, 2, 1, 0), (2, 61, 5, 198, 210), (5, 37, 8, 60, 0), (8, 1, 9, 2, 0), (9, 7, 10, 0, 0), (10, 0, 11, 0, 0), (11, 49, 14, 12, 0), (14, 1, 15, 1, 0), (15, 60, 18, 174, 1), (18, 8, 20, 13, 0), (20, 14, 21, 0, 0), (21, 51, 22, 0, 0), (22, 7, 23, 1, 0), (23, 15, 24, 0, 0), (24, 60, 27, 156, 3), (27, 37, 30, 60, 0), (30, 1, 31, 3, 0), (31, 7, 32, 0, 0), (32, 7, 33, 1, 0), (33, 60, 36, 156, 3), (36, 37, 39, 60, 0), (39, 0, 40, 0, 0), (40, 49, 43, 12, 0), (43, 1, 44, 1, 0), (44, 60, 47, 174, 1), (47, 8, 49, 14, 0), (49, 14, 50, 0, 0), (50, 7, 51, 2, 0), (51, 1, 52, 2, 0), (52, 16, 53, 0, 0), (53, 14, 54, 0, 0), (54, 1, 55, 3, 0), (55, 14, 56, 0, 0), (56, 51, 57, 0, 0), (57, 36, 60, 61, 0)]
theorem ve_X12_remarked_0 : zget kd_X12_remarked 0 = vb_X12_remarked_0.map vq ++ vrest kd_X12_remarked (some 60) := rfl
def vb_X12_remarked_60 : List VE := [(60, 7, 61, 4294967295, 0)]
theorem ve_X12_remarked_60 : zget kd_X12_remarked 60 = vb_X12_remarked_60.map vq ++ vrest kd_X12_remarked (some 61) := rfl
def vb_X12_remarked_61 : List VE := [(61, 62, 62, 0, 0)]
theorem ve_X12_remarked_61 : zget kd_X12_remarked 61 = vb_X12_remarked_61.map vq ++ vrest kd_X12_remarked (none) := rfl
def vb_X12_become_0 : List VE := [(0, 0, 1, 0, 0), (1, 49, 4, 12, 0), (4, 1, 5, 1, 0), (5, 51, 6, 0, 0), (6, 3, 7, 3, 0), (7, 0, 8, 0, 0), (8, 61, 11, 158, 209), (11, 0, 12, 0, 0), (12, 49, 15, 12, 0), (15, 1, 16, 1, 0), (16, 1, 17, 2, 0), (17, 52, 18, 0, 0), (18, 1, 19, 3, 0), (19, 62, 20, 0, 0)]
theorem ve_X12_become_0 : zget kd_X12_become 0 = vb_X12_become_0.map vq ++ vrest kd_X12_become (none) := rfl
def vb_X12_claim_0 : List VE := [(0, 0, 1, 0, 0), (1, 1, 2, 1, 0), (2, 61, 5, 198, 210), (5, 37, 8, 34, 0), (8, 1, 9, 2, 0), (9, 7, 10, 0, 0), (10, 9, 13, 999, 0), (13, 60, 16, 156, 3), (16, 37, 19, 34, 0), (19, 0, 20, 0, 0), (20, 1, 21, 1, 0), (21, 60, 24, 174, 1), (24, 8, 26, 11, 0), (26, 14, 27, 0, 0), (27, 1, 28, 2, 0), (28, 61, 31, 228, 211), (31, 36, 34, 35, 0)]
theorem ve_X12_claim_0 : zget kd_X12_claim 0 = vb_X12_claim_0.map vq ++ vrest kd_X12_claim (some 34) := rfl
def vb_X12_claim_34 : List VE := [(34, 7, 35, 4294967295, 0)]
theorem ve_X12_claim_34 : zget kd_X12_claim 34 = vb_X12_claim_34.map vq ++ vrest kd_X12_claim (some 35) := rfl
def vb_X12_claim_35 : List VE := [(35, 62, 36, 0, 0)]
theorem ve_X12_claim_35 : zget kd_X12_claim 35 = vb_X12_claim_35.map vq ++ vrest kd_X12_claim (none) := rfl
def vb_X12_limit_0 : List VE := [(0, 1, 1, 1, 0), (1, 7, 2, 0, 0), (2, 8, 4, 20, 0), (4, 60, 7, 156, 3), (7, 37, 10, 19, 0), (10, 0, 11, 0, 0), (11, 7, 12, 3, 0), (12, 1, 13, 1, 0), (13, 61, 16, 228, 211), (16, 36, 19, 20, 0)]
theorem ve_X12_limit_0 : zget kd_X12_limit 0 = vb_X12_limit_0.map vq ++ vrest kd_X12_limit (some 19) := rfl
def vb_X12_limit_19 : List VE := [(19, 7, 20, 4294967295, 0)]
theorem ve_X12_limit_19 : zget kd_X12_limit 19 = vb_X12_limit_19.map vq ++ vrest kd_X12_limit (some 20) := rfl
def vb_X12_limit_20 : List VE := [(20, 62, 21, 0, 0)]
theorem ve_X12_limit_20 : zget kd_X12_limit 20 = vb_X12_limit_20.map vq ++ vrest kd_X12_limit (none) := rfl
def vb_X12_far_0 : List VE := [(0, 1, 1, 1, 0), (1, 7, 2, 0, 0), (2, 8, 4, 24, 0), (4, 60, 7, 156, 3), (7, 37, 10, 19, 0), (10, 0, 11, 0, 0), (11, 7, 12, 4, 0), (12, 1, 13, 1, 0), (13, 61, 16, 228, 211), (16, 36, 19, 20, 0)]
theorem ve_X12_far_0 : zget kd_X12_far 0 = vb_X12_far_0.map vq ++ vrest kd_X12_far (some 19) := rfl
def vb_X12_far_19 : List VE := [(19, 7, 20, 4294967295, 0)]
theorem ve_X12_far_19 : zget kd_X12_far 19 = vb_X12_far_19.map vq ++ vrest kd_X12_far (some 20) := rfl
def vb_X12_far_20 : List VE := [(20, 62, 21, 0, 0)]
theorem ve_X12_far_20 : zget kd_X12_far 20 = vb_X12_far_20.map vq ++ vrest kd_X12_far (none) := rfl
def vb_X12_pack_0 : List VE := [(0, 1, 1, 1, 0), (1, 7, 2, 1, 0), (2, 9, 5, 9999, 0), (5, 60, 8, 156, 3), (8, 37, 11, 20, 0), (11, 0, 12, 0, 0), (12, 7, 13, 5, 0), (13, 1, 14, 1, 0), (14, 61, 17, 228, 211), (17, 36, 20, 21, 0)]
theorem ve_X12_pack_0 : zget kd_X12_pack 0 = vb_X12_pack_0.map vq ++ vrest kd_X12_pack (some 20) := rfl
def vb_X12_pack_20 : List VE := [(20, 7, 21, 4294967295, 0)]
theorem ve_X12_pack_20 : zget kd_X12_pack 20 = vb_X12_pack_20.map vq ++ vrest kd_X12_pack (some 21) := rfl
def vb_X12_pack_21 : List VE := [(21, 62, 22, 0, 0)]
theorem ve_X12_pack_21 : zget kd_X12_pack 21 = vb_X12_pack_21.map vq ++ vrest kd_X12_pack (none) := rfl
def vb_X12_paidFor_0 : List VE := [(0, 1, 1, 1, 0), (1, 60, 4, 174, 1), (4, 3, 5, 2, 0), (5, 0, 6, 0, 0), (6, 49, 9, 12, 0), (9, 1, 10, 2, 0), (10, 8, 12, 11, 0), (12, 14, 13, 0, 0), (13, 51, 14, 0, 0), (14, 0, 15, 0, 0), (15, 49, 18, 12, 28), (18, 1, 19, 1, 0), (19, 51, 20, 0, 0), (20, 60, 23, 191, 2), (23, 3, 24, 3, 0), (24, 0, 25, 0, 0), (25, 49, 28, 12, 0), (28, 1, 29, 2, 0), (29, 8, 31, 10, 0), (31, 14, 32, 0, 0), (32, 51, 33, 0, 0), (33, 0, 34, 0, 0), (34, 49, 37, 12, 0), (37, 7, 38, 5, 0), (38, 51, 39, 0, 0), (39, 60, 42, 191, 2), (42, 3, 44, 4, 0), (44, 1, 45, 3, 0), (45, 1, 47, 4, 0), (47, 16, 48, 0, 0), (48, 3, 50, 5, 0), (50, 7, 51, 0, 0), (51, 3, 53, 6, 0)]
theorem ve_X12_paidFor_0 : zget kd_X12_paidFor 0 = vb_X12_paidFor_0.map vq ++ vrest kd_X12_paidFor (some 53) := rfl
def vb_X12_paidFor_53 : List VE := [(53, 1, 55, 6, 0), (55, 0, 56, 0, 0), (56, 49, 59, 12, 0), (59, 1, 60, 2, 0), (60, 8, 62, 13, 0), (62, 14, 63, 0, 0), (63, 51, 64, 0, 0), (64, 46, 67, 167, 0), (67, 0, 68, 0, 0), (68, 49, 71, 12, 0), (71, 1, 72, 2, 0), (72, 8, 74, 14, 0), (74, 14, 75, 0, 0), (75, 7, 76, 2, 0), (76, 1, 78, 6, 0), (78, 16, 79, 0, 0), (79, 14, 80, 0, 0), (80, 51, 81, 0, 0), (81, 3, 83, 7, 0), (83, 1, 84, 3, 0), (84, 0, 85, 0, 0), (85, 49, 88, 12, 0), (88, 1, 89, 2, 0), (89, 8, 91, 14, 0), (91, 14, 92, 0, 0), (92, 7, 93, 2, 0), (93, 1, 95, 6, 0), (95, 16, 96, 0, 0), (96, 14, 97, 0, 0), (97, 7, 98, 1, 0), (98, 14, 99, 0, 0), (99, 51, 100, 0, 0), (100, 60, 103, 191, 2), (103, 3, 105, 8, 0), (105, 1, 107, 7, 0), (107, 7, 108, 1, 0), (108, 44, 111, 123, 0), (111, 1, 113, 5, 0), (113, 1, 115, 8, 0), (115, 1, 117, 4, 0), (117, 16, 118, 0, 0), (118, 7, 119, 2, 0), (119, 17, 120, 0, 0), (120, 15, 121, 0, 0), (121, 3, 123, 5, 0)]
theorem ve_X12_paidFor_53 : zget kd_X12_paidFor 53 = vb_X12_paidFor_53.map vq ++ vrest kd_X12_paidFor (some 123) := rfl
def vb_X12_paidFor_123 : List VE := [(123, 1, 125, 7, 0), (125, 7, 126, 2, 0), (126, 44, 129, 141, 0), (129, 1, 131, 5, 0), (131, 1, 133, 8, 0), (133, 1, 135, 4, 0), (135, 16, 136, 0, 0), (136, 7, 137, 4, 0), (137, 17, 138, 0, 0), (138, 15, 139, 0, 0), (139, 3, 141, 5, 0)]
theorem ve_X12_paidFor_123 : zget kd_X12_paidFor 123 = vb_X12_paidFor_123.map vq ++ vrest kd_X12_paidFor (some 141) := rfl
def vb_X12_paidFor_141 : List VE := [(141, 1, 143, 7, 0), (143, 7, 144, 3, 0), (144, 44, 147, 153, 0), (147, 1, 149, 5, 0), (149, 7, 150, 2, 0), (150, 17, 151, 0, 0), (151, 3, 153, 5, 0)]
theorem ve_X12_paidFor_141 : zget kd_X12_paidFor 141 = vb_X12_paidFor_141.map vq ++ vrest kd_X12_paidFor (some 153) := rfl
def vb_X12_paidFor_153 : List VE := [(153, 7, 154, 0, 0), (154, 1, 156, 5, 0), (156, 60, 159, 192, 2), (159, 3, 161, 5, 0), (161, 6, 164, 6, 1), (164, 36, 167, 53, 0)]
theorem ve_X12_paidFor_153 : zget kd_X12_paidFor 153 = vb_X12_paidFor_153.map vq ++ vrest kd_X12_paidFor (some 167) := rfl
def vb_X12_paidFor_167 : List VE := [(167, 1, 169, 5, 0), (169, 62, 170, 0, 0)]
theorem ve_X12_paidFor_167 : zget kd_X12_paidFor 167 = vb_X12_paidFor_167.map vq ++ vrest kd_X12_paidFor (none) := rfl
def vb_X12_paid_0 : List VE := [(0, 1, 1, 1, 0), (1, 7, 2, 4294967295, 0), (2, 43, 5, 16, 0), (5, 0, 6, 0, 0), (6, 1, 7, 1, 0), (7, 61, 10, 198, 210), (10, 38, 13, 16, 0), (13, 8, 15, 4294967294, 0), (15, 62, 16, 0, 0)]
theorem ve_X12_paid_0 : zget kd_X12_paid 0 = vb_X12_paid_0.map vq ++ vrest kd_X12_paid (some 16) := rfl
def vb_X12_paid_16 : List VE := [(16, 0, 17, 0, 0), (17, 61, 20, 216, 209), (20, 1, 21, 1, 0), (21, 7, 22, 4294967295, 0), (22, 43, 25, 31, 0), (25, 0, 26, 0, 0), (26, 1, 27, 1, 0), (27, 61, 30, 233, 210), (30, 62, 31, 0, 0)]
theorem ve_X12_paid_16 : zget kd_X12_paid 16 = vb_X12_paid_16.map vq ++ vrest kd_X12_paid (some 31) := rfl
def vb_X12_paid_31 : List VE := [(31, 7, 32, 0, 0), (32, 3, 33, 2, 0), (33, 7, 34, 0, 0), (34, 3, 35, 3, 0)]
theorem ve_X12_paid_31 : zget kd_X12_paid 31 = vb_X12_paid_31.map vq ++ vrest kd_X12_paid (some 35) := rfl
def vb_X12_paid_35 : List VE := [(35, 1, 36, 3, 0), (36, 0, 37, 0, 0), (37, 49, 40, 12, 0), (40, 7, 41, 0, 0), (41, 51, 42, 0, 0), (42, 46, 45, 59, 0), (45, 1, 46, 2, 0), (46, 0, 47, 0, 0), (47, 1, 48, 3, 0), (48, 61, 51, 233, 210), (51, 14, 52, 0, 0), (52, 3, 53, 2, 0), (53, 6, 56, 3, 1), (56, 36, 59, 35, 0)]
theorem ve_X12_paid_35 : zget kd_X12_paid 35 = vb_X12_paid_35.map vq ++ vrest kd_X12_paid (some 59) := rfl
def vb_X12_paid_59 : List VE := [(59, 1, 60, 2, 0), (60, 62, 61, 0, 0)]
theorem ve_X12_paid_59 : zget kd_X12_paid 59 = vb_X12_paid_59.map vq ++ vrest kd_X12_paid (none) := rfl
def vb_X12_layHold_0 : List VE := [(0, 0, 1, 0, 0), (1, 7, 2, 0, 0), (2, 50, 5, 12, 39), (5, 0, 6, 0, 0), (6, 7, 7, 0, 0), (7, 50, 10, 12, 40), (10, 7, 11, 0, 0), (11, 3, 12, 2, 0)]
theorem ve_X12_layHold_0 : zget kd_X12_layHold 0 = vb_X12_layHold_0.map vq ++ vrest kd_X12_layHold (some 12) := rfl
def vb_X12_layHold_12 : List VE := [(12, 1, 13, 2, 0), (13, 0, 14, 0, 0), (14, 49, 17, 12, 0), (17, 7, 18, 2, 0), (18, 51, 19, 0, 0), (19, 46, 22, 103, 0), (22, 0, 23, 0, 0), (23, 49, 26, 12, 0), (26, 1, 27, 2, 0), (27, 60, 30, 175, 1), (30, 7, 31, 1, 0), (31, 14, 32, 0, 0), (32, 51, 33, 0, 0), (33, 1, 34, 1, 0), (34, 43, 37, 40, 0), (37, 36, 40, 97, 0)]
theorem ve_X12_layHold_12 : zget kd_X12_layHold 12 = vb_X12_layHold_12.map vq ++ vrest kd_X12_layHold (some 40) := rfl
def vb_X12_layHold_40 : List VE := [(40, 0, 41, 0, 0), (41, 49, 44, 12, 0), (44, 1, 45, 2, 0), (45, 60, 48, 175, 1), (48, 7, 49, 0, 0), (49, 14, 50, 0, 0), (50, 51, 51, 0, 0), (51, 38, 54, 77, 0), (54, 0, 55, 0, 0), (55, 49, 58, 12, 35), (58, 0, 59, 0, 0), (59, 49, 62, 12, 39), (62, 1, 63, 2, 0), (63, 52, 64, 0, 0), (64, 0, 65, 0, 0), (65, 33, 66, 0, 0), (66, 49, 69, 12, 39), (69, 7, 70, 1, 0), (70, 14, 71, 0, 0), (71, 50, 74, 12, 39), (74, 36, 77, 97, 0)]
theorem ve_X12_layHold_40 : zget kd_X12_layHold 40 = vb_X12_layHold_40.map vq ++ vrest kd_X12_layHold (some 77) := rfl
def vb_X12_layHold_77 : List VE := [(77, 0, 78, 0, 0), (78, 49, 81, 12, 36), (81, 0, 82, 0, 0), (82, 49, 85, 12, 40), (85, 1, 86, 2, 0), (86, 52, 87, 0, 0), (87, 0, 88, 0, 0), (88, 33, 89, 0, 0), (89, 49, 92, 12, 40), (92, 7, 93, 1, 0), (93, 14, 94, 0, 0), (94, 50, 97, 12, 40)]
theorem ve_X12_layHold_77 : zget kd_X12_layHold 77 = vb_X12_layHold_77.map vq ++ vrest kd_X12_layHold (some 97) := rfl
def vb_X12_layHold_97 : List VE := [(97, 6, 100, 2, 1), (100, 36, 103, 12, 0)]
theorem ve_X12_layHold_97 : zget kd_X12_layHold 97 = vb_X12_layHold_97.map vq ++ vrest kd_X12_layHold (some 103) := rfl
def vb_X12_layHold_103 : List VE := [(103, 65, 104, 0, 0)]
theorem ve_X12_layHold_103 : zget kd_X12_layHold 103 = vb_X12_layHold_103.map vq ++ vrest kd_X12_layHold (none) := rfl
def vb_X12_bearing_0 : List VE := [(0, 0, 1, 0, 0), (1, 49, 4, 12, 0), (4, 1, 5, 1, 0), (5, 60, 8, 175, 1), (8, 7, 9, 2, 0), (9, 14, 10, 0, 0), (10, 51, 11, 0, 0), (11, 62, 12, 0, 0)]
theorem ve_X12_bearing_0 : zget kd_X12_bearing 0 = vb_X12_bearing_0.map vq ++ vrest kd_X12_bearing (none) := rfl
def vb_X12_standing_0 : List VE := [(0, 0, 1, 0, 0), (1, 1, 2, 1, 0), (2, 61, 5, 236, 210), (5, 0, 6, 0, 0), (6, 1, 7, 2, 0), (7, 61, 10, 236, 210), (10, 15, 11, 0, 0), (11, 3, 12, 3, 0), (12, 1, 13, 3, 0), (13, 40, 16, 21, 0), (16, 1, 17, 3, 0), (17, 25, 18, 0, 0), (18, 36, 21, 22, 0)]
theorem ve_X12_standing_0 : zget kd_X12_standing 0 = vb_X12_standing_0.map vq ++ vrest kd_X12_standing (some 21) := rfl
def vb_X12_standing_21 : List VE := [(21, 1, 22, 3, 0)]
theorem ve_X12_standing_21 : zget kd_X12_standing 21 = vb_X12_standing_21.map vq ++ vrest kd_X12_standing (some 22) := rfl
def vb_X12_standing_22 : List VE := [(22, 0, 23, 0, 0), (23, 1, 24, 1, 0), (24, 60, 27, 175, 1), (27, 7, 28, 3, 0), (28, 14, 29, 0, 0), (29, 1, 30, 1, 0), (30, 60, 33, 175, 1), (33, 7, 34, 4, 0), (34, 14, 35, 0, 0), (35, 1, 36, 2, 0), (36, 60, 39, 175, 1), (39, 7, 40, 3, 0), (40, 14, 41, 0, 0), (41, 1, 42, 2, 0), (42, 60, 45, 175, 1), (45, 7, 46, 4, 0), (46, 14, 47, 0, 0), (47, 61, 50, 195, 213), (50, 14, 51, 0, 0), (51, 62, 52, 0, 0)]
theorem ve_X12_standing_22 : zget kd_X12_standing 22 = vb_X12_standing_22.map vq ++ vrest kd_X12_standing (none) := rfl
def vb_X12_offers_0 : List VE := [(0, 1, 1, 1, 0), (1, 0, 2, 0, 0), (2, 49, 5, 12, 41), (5, 47, 8, 24, 0), (8, 1, 9, 1, 0), (9, 0, 10, 0, 0), (10, 49, 13, 12, 41), (13, 44, 16, 25, 0), (16, 1, 17, 2, 0), (17, 0, 18, 0, 0), (18, 49, 21, 12, 42), (21, 45, 24, 25, 0)]
theorem ve_X12_offers_0 : zget kd_X12_offers 0 = vb_X12_offers_0.map vq ++ vrest kd_X12_offers (some 24) := rfl
def vb_X12_offers_24 : List VE := [(24, 65, 25, 0, 0)]
theorem ve_X12_offers_24 : zget kd_X12_offers 24 = vb_X12_offers_24.map vq ++ vrest kd_X12_offers (some 25) := rfl
def vb_X12_offers_25 : List VE := [(25, 0, 26, 0, 0), (26, 1, 27, 1, 0), (27, 50, 30, 12, 41), (30, 0, 31, 0, 0), (31, 1, 32, 2, 0), (32, 50, 35, 12, 42), (35, 65, 36, 0, 0)]
theorem ve_X12_offers_25 : zget kd_X12_offers 25 = vb_X12_offers_25.map vq ++ vrest kd_X12_offers (none) := rfl
def vb_X12_layAgainst_0 : List VE := [(0, 0, 1, 0, 0), (1, 49, 4, 12, 37), (4, 7, 5, 0, 0), (5, 7, 6, 0, 0), (6, 52, 7, 0, 0), (7, 0, 8, 0, 0), (8, 49, 11, 12, 38), (11, 7, 12, 0, 0), (12, 7, 13, 0, 0), (13, 52, 14, 0, 0), (14, 7, 15, 0, 0), (15, 3, 16, 1, 0)]
theorem ve_X12_layAgainst_0 : zget kd_X12_layAgainst 0 = vb_X12_layAgainst_0.map vq ++ vrest kd_X12_layAgainst (some 16) := rfl
def vb_X12_layAgainst_16 : List VE := [(16, 1, 17, 1, 0), (17, 0, 18, 0, 0), (18, 49, 21, 12, 40), (21, 46, 24, 66, 0), (24, 0, 25, 0, 0), (25, 49, 28, 12, 37), (28, 1, 29, 1, 0), (29, 7, 30, 1, 0), (30, 14, 31, 0, 0), (31, 0, 32, 0, 0), (32, 49, 35, 12, 37), (35, 1, 36, 1, 0), (36, 51, 37, 0, 0), (37, 0, 38, 0, 0), (38, 0, 39, 0, 0), (39, 49, 42, 12, 36), (42, 1, 43, 1, 0), (43, 51, 44, 0, 0), (44, 61, 47, 236, 210), (47, 14, 48, 0, 0), (48, 52, 49, 0, 0), (49, 0, 50, 0, 0), (50, 49, 53, 12, 38), (53, 1, 54, 1, 0), (54, 7, 55, 1, 0), (55, 14, 56, 0, 0), (56, 1, 57, 1, 0), (57, 7, 58, 1, 0), (58, 14, 59, 0, 0), (59, 52, 60, 0, 0), (60, 6, 63, 1, 1), (63, 36, 66, 16, 0)]
theorem ve_X12_layAgainst_16 : zget kd_X12_layAgainst 16 = vb_X12_layAgainst_16.map vq ++ vrest kd_X12_layAgainst (some 66) := rfl
def vb_X12_layAgainst_66 : List VE := [(66, 7, 67, 0, 0), (67, 3, 68, 1, 0)]
theorem ve_X12_layAgainst_66 : zget kd_X12_layAgainst 66 = vb_X12_layAgainst_66.map vq ++ vrest kd_X12_layAgainst (some 68) := rfl
def vb_X12_layAgainst_68 : List VE := [(68, 1, 69, 1, 0), (69, 0, 70, 0, 0), (70, 49, 73, 12, 39), (73, 46, 76, 280, 0), (76, 0, 77, 0, 0), (77, 0, 78, 0, 0), (78, 49, 81, 12, 35), (81, 1, 82, 1, 0), (82, 51, 83, 0, 0), (83, 61, 86, 236, 210), (86, 3, 87, 2, 0), (87, 0, 88, 0, 0), (88, 49, 91, 12, 37), (91, 7, 92, 0, 0), (92, 51, 93, 0, 0), (93, 3, 94, 3, 0), (94, 0, 95, 0, 0), (95, 49, 98, 12, 38), (98, 7, 99, 0, 0), (99, 51, 100, 0, 0), (100, 3, 102, 4, 0), (102, 0, 103, 0, 0), (103, 49, 106, 12, 37), (106, 7, 107, 0, 0), (107, 34, 108, 0, 0), (108, 51, 109, 0, 0), (109, 1, 110, 2, 0), (110, 14, 111, 0, 0), (111, 52, 112, 0, 0), (112, 0, 113, 0, 0), (113, 49, 116, 12, 38), (116, 7, 117, 0, 0), (117, 34, 118, 0, 0), (118, 51, 119, 0, 0), (119, 7, 120, 1, 0), (120, 14, 121, 0, 0), (121, 52, 122, 0, 0), (122, 7, 123, 0, 0), (123, 3, 125, 5, 0)]
theorem ve_X12_layAgainst_68 : zget kd_X12_layAgainst 68 = vb_X12_layAgainst_68.map vq ++ vrest kd_X12_layAgainst (some 125) := rfl
def vb_X12_layAgainst_125 : List VE := [(125, 1, 127, 5, 0), (127, 0, 128, 0, 0), (128, 49, 131, 12, 40), (131, 46, 134, 274, 0), (134, 0, 135, 0, 0), (135, 1, 136, 3, 0), (136, 0, 137, 0, 0), (137, 0, 138, 0, 0), (138, 49, 141, 12, 35), (141, 1, 142, 1, 0), (142, 51, 143, 0, 0), (143, 0, 144, 0, 0), (144, 49, 147, 12, 36), (147, 1, 149, 5, 0), (149, 51, 150, 0, 0), (150, 61, 153, 237, 211), (153, 14, 154, 0, 0), (154, 50, 157, 12, 41), (157, 0, 158, 0, 0), (158, 1, 160, 4, 0), (160, 50, 163, 12, 42), (163, 0, 164, 0, 0), (164, 0, 165, 0, 0), (165, 49, 168, 12, 37), (168, 1, 170, 5, 0), (170, 7, 171, 1, 0), (171, 14, 172, 0, 0), (172, 51, 173, 0, 0), (173, 1, 174, 2, 0), (174, 14, 175, 0, 0), (175, 0, 176, 0, 0), (176, 49, 179, 12, 38), (179, 1, 181, 5, 0), (181, 7, 182, 1, 0), (182, 14, 183, 0, 0), (183, 51, 184, 0, 0), (184, 7, 185, 1, 0), (185, 14, 186, 0, 0), (186, 61, 189, 238, 211), (189, 0, 190, 0, 0), (190, 0, 191, 0, 0), (191, 49, 194, 12, 37), (194, 1, 196, 5, 0), (196, 51, 197, 0, 0), (197, 0, 198, 0, 0), (198, 0, 199, 0, 0), (199, 49, 202, 12, 36), (202, 1, 204, 5, 0), (204, 51, 205, 0, 0), (205, 61, 208, 236, 210), (208, 14, 209, 0, 0), (209, 0, 210, 0, 0), (210, 49, 213, 12, 38), (213, 1, 215, 5, 0), (215, 51, 216, 0, 0), (216, 7, 217, 1, 0), (217, 14, 218, 0, 0), (218, 61, 221, 238, 211), (221, 0, 222, 0, 0), (222, 49, 225, 12, 37), (225, 1, 227, 5, 0), (227, 7, 228, 1, 0), (228, 14, 229, 0, 0), (229, 51, 230, 0, 0), (230, 3, 231, 3, 0), (231, 0, 232, 0, 0), (232, 49, 235, 12, 38), (235, 1, 237, 5, 0), (237, 7, 238, 1, 0), (238, 14, 239, 0, 0), (239, 51, 240, 0, 0), (240, 3, 242, 4, 0), (242, 0, 243, 0, 0), (243, 49, 246, 12, 37), (246, 1, 248, 5, 0), (248, 7, 249, 1, 0), (249, 14, 250, 0, 0), (250, 0, 251, 0, 0), (251, 49, 254, 12, 41), (254, 52, 255, 0, 0), (255, 0, 256, 0, 0), (256, 49, 259, 12, 38), (259, 1, 261, 5, 0), (261, 7, 262, 1, 0), (262, 14, 263, 0, 0), (263, 0, 264, 0, 0), (264, 49, 267, 12, 42), (267, 52, 268, 0, 0), (268, 6, 271, 5, 1), (271, 36, 274, 125, 0)]
theorem ve_X12_layAgainst_125 : zget kd_X12_layAgainst 125 = vb_X12_layAgainst_125.map vq ++ vrest kd_X12_layAgainst (some 274) := rfl
def vb_X12_layAgainst_274 : List VE := [(274, 6, 277, 1, 1), (277, 36, 280, 68, 0)]
theorem ve_X12_layAgainst_274 : zget kd_X12_layAgainst 274 = vb_X12_layAgainst_274.map vq ++ vrest kd_X12_layAgainst (some 280) := rfl
def vb_X12_layAgainst_280 : List VE := [(280, 65, 281, 0, 0)]
theorem ve_X12_layAgainst_280 : zget kd_X12_layAgainst 280 = vb_X12_layAgainst_280.map vq ++ vrest kd_X12_layAgainst (none) := rfl
def vb_X12_isHold_0 : List VE := [(0, 1, 1, 0, 0), (1, 7, 2, 0, 0), (2, 7, 3, 4, 0), (3, 60, 6, 156, 3), (6, 62, 7, 2, 0)]
theorem ve_X12_isHold_0 : zget kd_X12_isHold 0 = vb_X12_isHold_0.map vq ++ vrest kd_X12_isHold (none) := rfl
def vb_X12_against_0 : List VE := [(0, 1, 1, 1, 0), (1, 60, 4, 240, 1), (4, 37, 7, 16, 0), (7, 1, 8, 2, 0), (8, 7, 9, 0, 0), (9, 7, 10, 1, 0), (10, 60, 13, 156, 3), (13, 38, 16, 18, 0)]
theorem ve_X12_against_0 : zget kd_X12_against 0 = vb_X12_against_0.map vq ++ vrest kd_X12_against (some 16) := rfl
def vb_X12_against_16 : List VE := [(16, 7, 17, 4294967295, 0), (17, 62, 18, 0, 0)]
theorem ve_X12_against_16 : zget kd_X12_against 16 = vb_X12_against_16.map vq ++ vrest kd_X12_against (some 18) := rfl
def vb_X12_against_18 : List VE := [(18, 0, 19, 0, 0), (19, 1, 20, 1, 0), (20, 61, 23, 235, 210), (23, 0, 24, 0, 0), (24, 61, 27, 239, 209), (27, 1, 28, 2, 0), (28, 38, 31, 43, 0), (31, 0, 32, 0, 0), (32, 49, 35, 12, 37), (35, 0, 36, 0, 0), (36, 49, 39, 12, 40), (39, 51, 40, 0, 0), (40, 36, 43, 52, 0)]
theorem ve_X12_against_18 : zget kd_X12_against 18 = vb_X12_against_18.map vq ++ vrest kd_X12_against (some 43) := rfl
def vb_X12_against_43 : List VE := [(43, 0, 44, 0, 0), (44, 49, 47, 12, 38), (47, 0, 48, 0, 0), (48, 49, 51, 12, 40), (51, 51, 52, 0, 0)]
theorem ve_X12_against_43 : zget kd_X12_against 43 = vb_X12_against_43.map vq ++ vrest kd_X12_against (some 52) := rfl
def vb_X12_against_52 : List VE := [(52, 62, 53, 0, 0)]
theorem ve_X12_against_52 : zget kd_X12_against 52 = vb_X12_against_52.map vq ++ vrest kd_X12_against (none) := rfl
def vb_X12_difference_0 : List VE := [(0, 0, 1, 0, 0), (1, 1, 2, 1, 0), (2, 61, 5, 235, 210), (5, 7, 6, 0, 0), (6, 3, 7, 2, 0), (7, 7, 8, 0, 0), (8, 3, 9, 3, 0)]
theorem ve_X12_difference_0 : zget kd_X12_difference 0 = vb_X12_difference_0.map vq ++ vrest kd_X12_difference (some 9) := rfl
def vb_X12_difference_9 : List VE := [(9, 1, 10, 3, 0), (10, 0, 11, 0, 0), (11, 49, 14, 12, 39), (14, 46, 17, 36, 0), (17, 1, 18, 2, 0), (18, 0, 19, 0, 0), (19, 0, 20, 0, 0), (20, 49, 23, 12, 35), (23, 1, 24, 3, 0), (24, 51, 25, 0, 0), (25, 61, 28, 236, 210), (28, 14, 29, 0, 0), (29, 3, 30, 2, 0), (30, 6, 33, 3, 1), (33, 36, 36, 9, 0)]
theorem ve_X12_difference_9 : zget kd_X12_difference 9 = vb_X12_difference_9.map vq ++ vrest kd_X12_difference (some 36) := rfl
def vb_X12_difference_36 : List VE := [(36, 7, 37, 0, 0), (37, 3, 38, 3, 0)]
theorem ve_X12_difference_36 : zget kd_X12_difference 36 = vb_X12_difference_36.map vq ++ vrest kd_X12_difference (some 38) := rfl
def vb_X12_difference_38 : List VE := [(38, 1, 39, 3, 0), (39, 0, 40, 0, 0), (40, 49, 43, 12, 40), (43, 46, 46, 65, 0), (46, 1, 47, 2, 0), (47, 0, 48, 0, 0), (48, 0, 49, 0, 0), (49, 49, 52, 12, 36), (52, 1, 53, 3, 0), (53, 51, 54, 0, 0), (54, 61, 57, 236, 210), (57, 15, 58, 0, 0), (58, 3, 59, 2, 0), (59, 6, 62, 3, 1), (62, 36, 65, 38, 0)]
theorem ve_X12_difference_38 : zget kd_X12_difference 38 = vb_X12_difference_38.map vq ++ vrest kd_X12_difference (some 65) := rfl
def vb_X12_difference_65 : List VE := [(65, 1, 66, 2, 0), (66, 62, 67, 0, 0)]
theorem ve_X12_difference_65 : zget kd_X12_difference 65 = vb_X12_difference_65.map vq ++ vrest kd_X12_difference (none) := rfl
def vb_X12_isAgain_0 : List VE := [(0, 7, 1, 0, 0), (1, 3, 2, 2, 0)]
theorem ve_X12_isAgain_0 : zget kd_X12_isAgain 0 = vb_X12_isAgain_0.map vq ++ vrest kd_X12_isAgain (some 2) := rfl
def vb_X12_isAgain_2 : List VE := [(2, 1, 3, 2, 0), (3, 1, 4, 1, 0), (4, 46, 7, 71, 0), (7, 0, 8, 0, 0), (8, 49, 11, 12, 0), (11, 1, 12, 2, 0), (12, 60, 15, 175, 1), (15, 7, 16, 1, 0), (16, 14, 17, 0, 0), (17, 51, 18, 0, 0), (18, 0, 19, 0, 0), (19, 49, 22, 12, 0), (22, 1, 23, 1, 0), (23, 60, 26, 175, 1), (26, 7, 27, 1, 0), (27, 14, 28, 0, 0), (28, 51, 29, 0, 0), (29, 44, 32, 65, 0), (32, 0, 33, 0, 0), (33, 1, 34, 2, 0), (34, 60, 37, 175, 1), (37, 7, 38, 3, 0), (38, 14, 39, 0, 0), (39, 1, 40, 2, 0), (40, 60, 43, 175, 1), (43, 7, 44, 4, 0), (44, 14, 45, 0, 0), (45, 1, 46, 1, 0), (46, 60, 49, 175, 1), (49, 7, 50, 3, 0), (50, 14, 51, 0, 0), (51, 1, 52, 1, 0), (52, 60, 55, 175, 1), (55, 7, 56, 4, 0), (56, 14, 57, 0, 0), (57, 61, 60, 176, 213), (60, 37, 63, 65, 0), (63, 7, 64, 1, 0), (64, 62, 65, 2, 0)]
theorem ve_X12_isAgain_2 : zget kd_X12_isAgain 2 = vb_X12_isAgain_2.map vq ++ vrest kd_X12_isAgain (some 65) := rfl
def vb_X12_isAgain_65 : List VE := [(65, 6, 68, 2, 1), (68, 36, 71, 2, 0)]
theorem ve_X12_isAgain_65 : zget kd_X12_isAgain 65 = vb_X12_isAgain_65.map vq ++ vrest kd_X12_isAgain (some 71) := rfl
def vb_X12_isAgain_71 : List VE := [(71, 7, 72, 0, 0), (72, 62, 73, 2, 0)]
theorem ve_X12_isAgain_71 : zget kd_X12_isAgain 71 = vb_X12_isAgain_71.map vq ++ vrest kd_X12_isAgain (none) := rfl
def vb_X12_hold_0 : List VE := [(0, 1, 1, 1, 0), (1, 60, 4, 240, 1), (4, 37, 7, 16, 0), (7, 1, 8, 2, 0), (8, 7, 9, 0, 0), (9, 7, 10, 5, 0), (10, 60, 13, 156, 3), (13, 38, 16, 18, 0)]
theorem ve_X12_hold_0 : zget kd_X12_hold 0 = vb_X12_hold_0.map vq ++ vrest kd_X12_hold (some 16) := rfl
def vb_X12_hold_16 : List VE := [(16, 7, 17, 4294967295, 0), (17, 62, 18, 0, 0)]
theorem ve_X12_hold_16 : zget kd_X12_hold 16 = vb_X12_hold_16.map vq ++ vrest kd_X12_hold (some 18) := rfl
def vb_X12_hold_18 : List VE := [(18, 0, 19, 0, 0), (19, 1, 20, 1, 0), (20, 61, 23, 235, 210), (23, 7, 24, 0, 0), (24, 3, 25, 3, 0), (25, 7, 26, 0, 0), (26, 3, 28, 4, 0)]
theorem ve_X12_hold_18 : zget kd_X12_hold 18 = vb_X12_hold_18.map vq ++ vrest kd_X12_hold (some 28) := rfl
def vb_X12_hold_28 : List VE := [(28, 1, 30, 4, 0), (30, 0, 31, 0, 0), (31, 49, 34, 12, 39), (34, 46, 37, 61, 0), (37, 1, 38, 2, 0), (38, 38, 41, 61, 0), (41, 1, 42, 3, 0), (42, 0, 43, 0, 0), (43, 0, 44, 0, 0), (44, 49, 47, 12, 35), (47, 1, 49, 4, 0), (49, 51, 50, 0, 0), (50, 61, 53, 236, 210), (53, 14, 54, 0, 0), (54, 3, 55, 3, 0), (55, 6, 58, 4, 1), (58, 36, 61, 28, 0)]
theorem ve_X12_hold_28 : zget kd_X12_hold 28 = vb_X12_hold_28.map vq ++ vrest kd_X12_hold (some 61) := rfl
def vb_X12_hold_61 : List VE := [(61, 7, 62, 0, 0), (62, 3, 64, 4, 0)]
theorem ve_X12_hold_61 : zget kd_X12_hold 61 = vb_X12_hold_61.map vq ++ vrest kd_X12_hold (some 64) := rfl
def vb_X12_hold_64 : List VE := [(64, 1, 66, 4, 0), (66, 0, 67, 0, 0), (67, 49, 70, 12, 40), (70, 46, 73, 98, 0), (73, 1, 74, 2, 0), (74, 7, 75, 1, 0), (75, 44, 78, 98, 0), (78, 1, 79, 3, 0), (79, 0, 80, 0, 0), (80, 0, 81, 0, 0), (81, 49, 84, 12, 36), (84, 1, 86, 4, 0), (86, 51, 87, 0, 0), (87, 61, 90, 236, 210), (90, 14, 91, 0, 0), (91, 3, 92, 3, 0), (92, 6, 95, 4, 1), (95, 36, 98, 64, 0)]
theorem ve_X12_hold_64 : zget kd_X12_hold 64 = vb_X12_hold_64.map vq ++ vrest kd_X12_hold (some 98) := rfl
def vb_X12_hold_98 : List VE := [(98, 7, 99, 0, 0), (99, 3, 101, 4, 0)]
theorem ve_X12_hold_98 : zget kd_X12_hold 98 = vb_X12_hold_98.map vq ++ vrest kd_X12_hold (some 101) := rfl
def vb_X12_hold_101 : List VE := [(101, 1, 103, 4, 0), (103, 0, 104, 0, 0), (104, 49, 107, 12, 0), (107, 7, 108, 2, 0), (108, 51, 109, 0, 0), (109, 46, 112, 176, 0), (112, 1, 113, 2, 0), (113, 7, 114, 3, 0), (114, 48, 117, 176, 0), (117, 0, 118, 0, 0), (118, 49, 121, 12, 0), (121, 1, 123, 4, 0), (123, 60, 126, 175, 1), (126, 7, 127, 1, 0), (127, 14, 128, 0, 0), (128, 51, 129, 0, 0), (129, 1, 130, 1, 0), (130, 43, 133, 136, 0), (133, 36, 136, 170, 0)]
theorem ve_X12_hold_101 : zget kd_X12_hold 101 = vb_X12_hold_101.map vq ++ vrest kd_X12_hold (some 136) := rfl
def vb_X12_hold_136 : List VE := [(136, 1, 137, 3, 0), (137, 1, 138, 2, 0), (138, 7, 139, 4, 0), (139, 44, 142, 154, 0), (142, 0, 143, 0, 0), (143, 1, 145, 4, 0), (145, 61, 148, 243, 210), (148, 37, 151, 167, 0), (151, 36, 154, 163, 0)]
theorem ve_X12_hold_136 : zget kd_X12_hold 136 = vb_X12_hold_136.map vq ++ vrest kd_X12_hold (some 154) := rfl
def vb_X12_hold_154 : List VE := [(154, 0, 155, 0, 0), (155, 1, 157, 4, 0), (157, 61, 160, 203, 210), (160, 39, 163, 167, 0)]
theorem ve_X12_hold_154 : zget kd_X12_hold 154 = vb_X12_hold_154.map vq ++ vrest kd_X12_hold (some 163) := rfl
def vb_X12_hold_163 : List VE := [(163, 7, 164, 0, 0), (164, 36, 167, 168, 0)]
theorem ve_X12_hold_163 : zget kd_X12_hold 163 = vb_X12_hold_163.map vq ++ vrest kd_X12_hold (some 167) := rfl
def vb_X12_hold_167 : List VE := [(167, 7, 168, 1, 0)]
theorem ve_X12_hold_167 : zget kd_X12_hold 167 = vb_X12_hold_167.map vq ++ vrest kd_X12_hold (some 168) := rfl
def vb_X12_hold_168 : List VE := [(168, 14, 169, 0, 0), (169, 3, 170, 3, 0)]
theorem ve_X12_hold_168 : zget kd_X12_hold 168 = vb_X12_hold_168.map vq ++ vrest kd_X12_hold (some 170) := rfl
def vb_X12_hold_170 : List VE := [(170, 6, 173, 4, 1), (173, 36, 176, 101, 0)]
theorem ve_X12_hold_170 : zget kd_X12_hold 170 = vb_X12_hold_170.map vq ++ vrest kd_X12_hold (some 176) := rfl
def vb_X12_hold_176 : List VE := [(176, 1, 177, 2, 0), (177, 7, 178, 2, 0), (178, 44, 181, 188, 0), (181, 0, 182, 0, 0), (182, 49, 185, 12, 39), (185, 36, 188, 201, 0)]
theorem ve_X12_hold_176 : zget kd_X12_hold 176 = vb_X12_hold_176.map vq ++ vrest kd_X12_hold (some 188) := rfl
def vb_X12_hold_188 : List VE := [(188, 1, 189, 2, 0), (189, 7, 190, 3, 0), (190, 44, 193, 200, 0), (193, 0, 194, 0, 0), (194, 49, 197, 12, 40), (197, 36, 200, 201, 0)]
theorem ve_X12_hold_188 : zget kd_X12_hold 188 = vb_X12_hold_188.map vq ++ vrest kd_X12_hold (some 200) := rfl
def vb_X12_hold_200 : List VE := [(200, 1, 201, 3, 0)]
theorem ve_X12_hold_200 : zget kd_X12_hold 200 = vb_X12_hold_200.map vq ++ vrest kd_X12_hold (some 201) := rfl
def vb_X12_hold_201 : List VE := [(201, 62, 202, 0, 0)]
theorem ve_X12_hold_201 : zget kd_X12_hold 201 = vb_X12_hold_201.map vq ++ vrest kd_X12_hold (none) := rfl
def vb_X12_close_0 : List VE := [(0, 1, 1, 1, 0), (1, 60, 4, 240, 1), (4, 37, 7, 15, 0), (7, 0, 8, 0, 0), (8, 1, 9, 1, 0), (9, 61, 12, 242, 210), (12, 36, 15, 18, 0)]
theorem ve_X12_close_0 : zget kd_X12_close 0 = vb_X12_close_0.map vq ++ vrest kd_X12_close (some 15) := rfl
def vb_X12_close_15 : List VE := [(15, 11, 18, 4293967296, 0)]
theorem ve_X12_close_15 : zget kd_X12_close 15 = vb_X12_close_15.map vq ++ vrest kd_X12_close (some 18) := rfl
def vb_X12_close_18 : List VE := [(18, 62, 19, 0, 0)]
theorem ve_X12_close_18 : zget kd_X12_close 18 = vb_X12_close_18.map vq ++ vrest kd_X12_close (none) := rfl
def vb_X12_blame_0 : List VE := [(0, 1, 1, 1, 0), (1, 60, 4, 240, 1), (4, 37, 7, 16, 0), (7, 1, 8, 2, 0), (8, 7, 9, 0, 0), (9, 7, 10, 1, 0), (10, 60, 13, 156, 3), (13, 38, 16, 19, 0)]
theorem ve_X12_blame_0 : zget kd_X12_blame 0 = vb_X12_blame_0.map vq ++ vrest kd_X12_blame (some 16) := rfl
def vb_X12_blame_16 : List VE := [(16, 8, 18, 4294967294, 0), (18, 62, 19, 0, 0)]
theorem ve_X12_blame_16 : zget kd_X12_blame 16 = vb_X12_blame_16.map vq ++ vrest kd_X12_blame (some 19) := rfl
def vb_X12_blame_19 : List VE := [(19, 0, 20, 0, 0), (20, 1, 21, 1, 0), (21, 61, 24, 242, 210), (24, 3, 25, 3, 0), (25, 7, 26, 0, 0), (26, 3, 28, 4, 0), (28, 7, 29, 4294967295, 0), (29, 3, 31, 5, 0), (31, 7, 32, 0, 0), (32, 3, 34, 6, 0)]
theorem ve_X12_blame_19 : zget kd_X12_blame 19 = vb_X12_blame_19.map vq ++ vrest kd_X12_blame (some 34) := rfl
def vb_X12_blame_34 : List VE := [(34, 1, 36, 6, 0), (36, 0, 37, 0, 0), (37, 49, 40, 12, 0), (40, 7, 41, 2, 0), (41, 51, 42, 0, 0), (42, 46, 45, 143, 0), (45, 1, 46, 3, 0), (46, 37, 49, 143, 0), (49, 0, 50, 0, 0), (50, 49, 53, 12, 0), (53, 1, 55, 6, 0), (55, 60, 58, 175, 1), (58, 7, 59, 1, 0), (59, 14, 60, 0, 0), (60, 51, 61, 0, 0), (61, 1, 62, 1, 0), (62, 43, 65, 68, 0), (65, 36, 68, 137, 0)]
theorem ve_X12_blame_34 : zget kd_X12_blame 34 = vb_X12_blame_34.map vq ++ vrest kd_X12_blame (some 68) := rfl
def vb_X12_blame_68 : List VE := [(68, 0, 69, 0, 0), (69, 49, 72, 12, 0), (72, 1, 74, 6, 0), (74, 60, 77, 175, 1), (77, 7, 78, 0, 0), (78, 14, 79, 0, 0), (79, 51, 80, 0, 0), (80, 38, 83, 94, 0), (83, 0, 84, 0, 0), (84, 1, 86, 6, 0), (86, 61, 89, 236, 210), (89, 1, 90, 3, 0), (90, 15, 91, 0, 0), (91, 36, 94, 102, 0)]
theorem ve_X12_blame_68 : zget kd_X12_blame 68 = vb_X12_blame_68.map vq ++ vrest kd_X12_blame (some 94) := rfl
def vb_X12_blame_94 : List VE := [(94, 0, 95, 0, 0), (95, 1, 97, 6, 0), (97, 61, 100, 236, 210), (100, 1, 101, 3, 0), (101, 14, 102, 0, 0)]
theorem ve_X12_blame_94 : zget kd_X12_blame 94 = vb_X12_blame_94.map vq ++ vrest kd_X12_blame (some 102) := rfl
def vb_X12_blame_102 : List VE := [(102, 3, 104, 7, 0), (104, 1, 106, 7, 0), (106, 7, 107, 1, 0), (107, 9, 110, 999, 0), (110, 60, 113, 156, 3), (113, 38, 116, 119, 0), (116, 36, 119, 137, 0)]
theorem ve_X12_blame_102 : zget kd_X12_blame 102 = vb_X12_blame_102.map vq ++ vrest kd_X12_blame (some 119) := rfl
def vb_X12_blame_119 : List VE := [(119, 6, 122, 4, 1), (122, 1, 124, 4, 0), (124, 7, 125, 1, 0), (125, 44, 128, 133, 0), (128, 1, 130, 6, 0), (130, 36, 133, 135, 0)]
theorem ve_X12_blame_119 : zget kd_X12_blame 119 = vb_X12_blame_119.map vq ++ vrest kd_X12_blame (some 133) := rfl
def vb_X12_blame_133 : List VE := [(133, 1, 135, 5, 0)]
theorem ve_X12_blame_133 : zget kd_X12_blame 133 = vb_X12_blame_133.map vq ++ vrest kd_X12_blame (some 135) := rfl
def vb_X12_blame_135 : List VE := [(135, 3, 137, 5, 0)]
theorem ve_X12_blame_135 : zget kd_X12_blame 135 = vb_X12_blame_135.map vq ++ vrest kd_X12_blame (some 137) := rfl
def vb_X12_blame_137 : List VE := [(137, 6, 140, 6, 1), (140, 36, 143, 34, 0)]
theorem ve_X12_blame_137 : zget kd_X12_blame 137 = vb_X12_blame_137.map vq ++ vrest kd_X12_blame (some 143) := rfl
def vb_X12_blame_143 : List VE := [(143, 1, 144, 2, 0), (144, 38, 147, 152, 0), (147, 1, 149, 4, 0), (149, 36, 152, 154, 0)]
theorem ve_X12_blame_143 : zget kd_X12_blame 143 = vb_X12_blame_143.map vq ++ vrest kd_X12_blame (some 152) := rfl
def vb_X12_blame_152 : List VE := [(152, 1, 154, 5, 0)]
theorem ve_X12_blame_152 : zget kd_X12_blame 152 = vb_X12_blame_152.map vq ++ vrest kd_X12_blame (some 154) := rfl
def vb_X12_blame_154 : List VE := [(154, 62, 155, 0, 0)]
theorem ve_X12_blame_154 : zget kd_X12_blame 154 = vb_X12_blame_154.map vq ++ vrest kd_X12_blame (none) := rfl
def vb_X12_worn_0 : List VE := [(0, 0, 1, 0, 0), (1, 1, 2, 1, 0), (2, 61, 5, 198, 210), (5, 37, 8, 17, 0), (8, 1, 9, 2, 0), (9, 7, 10, 0, 0), (10, 7, 11, 1, 0), (11, 60, 14, 156, 3), (14, 38, 17, 20, 0)]
theorem ve_X12_worn_0 : zget kd_X12_worn 0 = vb_X12_worn_0.map vq ++ vrest kd_X12_worn (some 17) := rfl
def vb_X12_worn_17 : List VE := [(17, 8, 19, 4294967294, 0), (19, 62, 20, 0, 0)]
theorem ve_X12_worn_17 : zget kd_X12_worn 17 = vb_X12_worn_17.map vq ++ vrest kd_X12_worn (some 20) := rfl
def vb_X12_worn_20 : List VE := [(20, 1, 21, 1, 0), (21, 60, 24, 174, 1), (24, 3, 25, 3, 0), (25, 7, 26, 0, 0), (26, 3, 28, 4, 0), (28, 7, 29, 4294967295, 0), (29, 3, 31, 5, 0), (31, 7, 32, 0, 0), (32, 3, 34, 6, 0)]
theorem ve_X12_worn_20 : zget kd_X12_worn 20 = vb_X12_worn_20.map vq ++ vrest kd_X12_worn (some 34) := rfl
def vb_X12_worn_34 : List VE := [(34, 1, 36, 6, 0), (36, 0, 37, 0, 0), (37, 49, 40, 12, 0), (40, 1, 41, 3, 0), (41, 7, 42, 0, 0), (42, 14, 43, 0, 0), (43, 51, 44, 0, 0), (44, 46, 47, 132, 0), (47, 7, 48, 0, 0), (48, 3, 50, 7, 0)]
theorem ve_X12_worn_34 : zget kd_X12_worn 34 = vb_X12_worn_34.map vq ++ vrest kd_X12_worn (some 50) := rfl
def vb_X12_worn_50 : List VE := [(50, 1, 52, 7, 0), (52, 0, 53, 0, 0), (53, 49, 56, 12, 0), (56, 1, 57, 3, 0), (57, 7, 58, 0, 0), (58, 14, 59, 0, 0), (59, 51, 60, 0, 0), (60, 46, 63, 87, 0), (63, 0, 64, 0, 0), (64, 49, 67, 12, 43), (67, 1, 69, 7, 0), (69, 0, 70, 0, 0), (70, 49, 73, 12, 0), (73, 1, 74, 3, 0), (74, 7, 75, 1, 0), (75, 14, 76, 0, 0), (76, 1, 78, 7, 0), (78, 14, 79, 0, 0), (79, 51, 80, 0, 0), (80, 52, 81, 0, 0), (81, 6, 84, 7, 1), (84, 36, 87, 50, 0)]
theorem ve_X12_worn_50 : zget kd_X12_worn 50 = vb_X12_worn_50.map vq ++ vrest kd_X12_worn (some 87) := rfl
def vb_X12_worn_87 : List VE := [(87, 0, 88, 0, 0), (88, 0, 89, 0, 0), (89, 49, 92, 12, 0), (92, 1, 93, 3, 0), (93, 7, 94, 0, 0), (94, 14, 95, 0, 0), (95, 51, 96, 0, 0), (96, 1, 98, 6, 0), (98, 61, 101, 248, 211), (101, 1, 102, 1, 0), (102, 44, 105, 108, 0), (105, 36, 108, 126, 0)]
theorem ve_X12_worn_87 : zget kd_X12_worn 87 = vb_X12_worn_87.map vq ++ vrest kd_X12_worn (some 108) := rfl
def vb_X12_worn_108 : List VE := [(108, 6, 111, 4, 1), (111, 1, 113, 4, 0), (113, 7, 114, 1, 0), (114, 44, 117, 122, 0), (117, 1, 119, 6, 0), (119, 36, 122, 124, 0)]
theorem ve_X12_worn_108 : zget kd_X12_worn 108 = vb_X12_worn_108.map vq ++ vrest kd_X12_worn (some 122) := rfl
def vb_X12_worn_122 : List VE := [(122, 1, 124, 5, 0)]
theorem ve_X12_worn_122 : zget kd_X12_worn 122 = vb_X12_worn_122.map vq ++ vrest kd_X12_worn (some 124) := rfl
def vb_X12_worn_124 : List VE := [(124, 3, 126, 5, 0)]
theorem ve_X12_worn_124 : zget kd_X12_worn 124 = vb_X12_worn_124.map vq ++ vrest kd_X12_worn (some 126) := rfl
def vb_X12_worn_126 : List VE := [(126, 6, 129, 6, 1), (129, 36, 132, 34, 0)]
theorem ve_X12_worn_126 : zget kd_X12_worn 126 = vb_X12_worn_126.map vq ++ vrest kd_X12_worn (some 132) := rfl
def vb_X12_worn_132 : List VE := [(132, 1, 133, 2, 0), (133, 38, 136, 141, 0), (136, 1, 138, 4, 0), (138, 36, 141, 143, 0)]
theorem ve_X12_worn_132 : zget kd_X12_worn 132 = vb_X12_worn_132.map vq ++ vrest kd_X12_worn (some 141) := rfl
def vb_X12_worn_141 : List VE := [(141, 1, 143, 5, 0)]
theorem ve_X12_worn_141 : zget kd_X12_worn 141 = vb_X12_worn_141.map vq ++ vrest kd_X12_worn (some 143) := rfl
def vb_X12_worn_143 : List VE := [(143, 62, 144, 0, 0)]
theorem ve_X12_worn_143 : zget kd_X12_worn 143 = vb_X12_worn_143.map vq ++ vrest kd_X12_worn (none) := rfl
def vb_X12_readSpare_0 : List VE := [(0, 7, 1, 0, 0), (1, 3, 2, 3, 0), (2, 7, 3, 4294967295, 0), (3, 3, 5, 4, 0), (5, 7, 6, 0, 0), (6, 3, 8, 5, 0), (8, 7, 9, 0, 0), (9, 3, 11, 6, 0)]
theorem ve_X12_readSpare_0 : zget kd_X12_readSpare 0 = vb_X12_readSpare_0.map vq ++ vrest kd_X12_readSpare (some 11) := rfl
def vb_X12_readSpare_11 : List VE := [(11, 1, 13, 6, 0), (13, 0, 14, 0, 0), (14, 49, 17, 12, 0), (17, 7, 18, 0, 0), (18, 51, 19, 0, 0), (19, 46, 22, 91, 0), (22, 0, 23, 0, 0), (23, 1, 24, 1, 0), (24, 1, 25, 2, 0), (25, 1, 27, 6, 0), (27, 61, 30, 249, 212), (30, 3, 32, 7, 0), (32, 1, 34, 5, 0), (34, 42, 37, 46, 0), (37, 1, 39, 7, 0), (39, 1, 40, 3, 0), (40, 48, 43, 46, 0), (43, 36, 46, 85, 0)]
theorem ve_X12_readSpare_11 : zget kd_X12_readSpare 11 = vb_X12_readSpare_11.map vq ++ vrest kd_X12_readSpare (some 46) := rfl
def vb_X12_readSpare_46 : List VE := [(46, 1, 48, 5, 0), (48, 42, 51, 64, 0), (51, 1, 53, 7, 0), (53, 1, 54, 3, 0), (54, 44, 57, 64, 0), (57, 1, 59, 5, 0), (59, 7, 60, 1, 0), (60, 14, 61, 0, 0), (61, 36, 64, 65, 0)]
theorem ve_X12_readSpare_46 : zget kd_X12_readSpare 46 = vb_X12_readSpare_46.map vq ++ vrest kd_X12_readSpare (some 64) := rfl
def vb_X12_readSpare_64 : List VE := [(64, 7, 65, 1, 0)]
theorem ve_X12_readSpare_64 : zget kd_X12_readSpare 64 = vb_X12_readSpare_64.map vq ++ vrest kd_X12_readSpare (some 65) := rfl
def vb_X12_readSpare_65 : List VE := [(65, 3, 67, 5, 0), (67, 1, 69, 5, 0), (69, 7, 70, 1, 0), (70, 44, 73, 78, 0), (73, 1, 75, 6, 0), (75, 36, 78, 80, 0)]
theorem ve_X12_readSpare_65 : zget kd_X12_readSpare 65 = vb_X12_readSpare_65.map vq ++ vrest kd_X12_readSpare (some 78) := rfl
def vb_X12_readSpare_78 : List VE := [(78, 1, 80, 4, 0)]
theorem ve_X12_readSpare_78 : zget kd_X12_readSpare 78 = vb_X12_readSpare_78.map vq ++ vrest kd_X12_readSpare (some 80) := rfl
def vb_X12_readSpare_80 : List VE := [(80, 3, 82, 4, 0), (82, 1, 84, 7, 0), (84, 3, 85, 3, 0)]
theorem ve_X12_readSpare_80 : zget kd_X12_readSpare 80 = vb_X12_readSpare_80.map vq ++ vrest kd_X12_readSpare (some 85) := rfl
def vb_X12_readSpare_85 : List VE := [(85, 6, 88, 6, 1), (88, 36, 91, 11, 0)]
theorem ve_X12_readSpare_85 : zget kd_X12_readSpare 85 = vb_X12_readSpare_85.map vq ++ vrest kd_X12_readSpare (some 91) := rfl
def vb_X12_readSpare_91 : List VE := [(91, 1, 93, 5, 0), (93, 7, 94, 1, 0), (94, 44, 97, 112, 0), (97, 1, 98, 3, 0), (98, 0, 99, 0, 0), (99, 49, 102, 12, 0), (102, 7, 103, 3, 0), (103, 51, 104, 0, 0), (104, 47, 107, 112, 0), (107, 1, 109, 4, 0), (109, 36, 112, 113, 0)]
theorem ve_X12_readSpare_91 : zget kd_X12_readSpare 91 = vb_X12_readSpare_91.map vq ++ vrest kd_X12_readSpare (some 112) := rfl
def vb_X12_readSpare_112 : List VE := [(112, 7, 113, 4294967295, 0)]
theorem ve_X12_readSpare_112 : zget kd_X12_readSpare 112 = vb_X12_readSpare_112.map vq ++ vrest kd_X12_readSpare (some 113) := rfl
def vb_X12_readSpare_113 : List VE := [(113, 62, 114, 0, 0)]
theorem ve_X12_readSpare_113 : zget kd_X12_readSpare 113 = vb_X12_readSpare_113.map vq ++ vrest kd_X12_readSpare (none) := rfl
def vb_X12_spareApart_0 : List VE := [(0, 1, 1, 3, 0), (1, 60, 4, 174, 1), (4, 3, 6, 4, 0), (6, 0, 7, 0, 0), (7, 49, 10, 12, 0), (10, 1, 12, 4, 0), (12, 7, 13, 0, 0), (13, 14, 14, 0, 0), (14, 51, 15, 0, 0), (15, 3, 17, 5, 0), (17, 7, 18, 0, 0), (18, 3, 20, 6, 0)]
theorem ve_X12_spareApart_0 : zget kd_X12_spareApart 0 = vb_X12_spareApart_0.map vq ++ vrest kd_X12_spareApart (some 20) := rfl
def vb_X12_spareApart_20 : List VE := [(20, 1, 22, 6, 0), (22, 1, 24, 5, 0), (24, 47, 27, 44, 0), (27, 0, 28, 0, 0), (28, 49, 31, 12, 16), (31, 1, 33, 6, 0), (33, 7, 34, 2, 0), (34, 1, 36, 6, 0), (36, 16, 37, 0, 0), (37, 52, 38, 0, 0), (38, 6, 41, 6, 1), (41, 36, 44, 20, 0)]
theorem ve_X12_spareApart_20 : zget kd_X12_spareApart 20 = vb_X12_spareApart_20.map vq ++ vrest kd_X12_spareApart (some 44) := rfl
def vb_X12_spareApart_44 : List VE := [(44, 7, 45, 0, 0), (45, 3, 47, 6, 0)]
theorem ve_X12_spareApart_44 : zget kd_X12_spareApart 44 = vb_X12_spareApart_44.map vq ++ vrest kd_X12_spareApart (some 47) := rfl
def vb_X12_spareApart_47 : List VE := [(47, 1, 49, 6, 0), (49, 1, 50, 1, 0), (50, 46, 53, 180, 0), (53, 0, 54, 0, 0), (54, 49, 57, 12, 16), (57, 7, 58, 0, 0), (58, 51, 59, 0, 0), (59, 3, 61, 7, 0), (61, 0, 62, 0, 0), (62, 49, 65, 12, 16), (65, 7, 66, 0, 0), (66, 7, 67, 2, 0), (67, 1, 69, 6, 0), (69, 16, 70, 0, 0), (70, 7, 71, 2, 0), (71, 14, 72, 0, 0), (72, 52, 73, 0, 0), (73, 7, 74, 0, 0), (74, 3, 76, 8, 0)]
theorem ve_X12_spareApart_47 : zget kd_X12_spareApart 47 = vb_X12_spareApart_47.map vq ++ vrest kd_X12_spareApart (some 76) := rfl
def vb_X12_spareApart_76 : List VE := [(76, 1, 78, 8, 0), (78, 1, 80, 5, 0), (80, 46, 83, 174, 0), (83, 1, 85, 7, 0), (85, 0, 86, 0, 0), (86, 1, 88, 6, 0), (88, 1, 89, 2, 0), (89, 44, 92, 97, 0), (92, 8, 94, 46, 0), (94, 36, 97, 104, 0)]
theorem ve_X12_spareApart_76 : zget kd_X12_spareApart 76 = vb_X12_spareApart_76.map vq ++ vrest kd_X12_spareApart (some 97) := rfl
def vb_X12_spareApart_97 : List VE := [(97, 0, 98, 0, 0), (98, 49, 101, 12, 43), (101, 1, 103, 6, 0), (103, 51, 104, 0, 0)]
theorem ve_X12_spareApart_97 : zget kd_X12_spareApart 97 = vb_X12_spareApart_97.map vq ++ vrest kd_X12_spareApart (some 104) := rfl
def vb_X12_spareApart_104 : List VE := [(104, 0, 105, 0, 0), (105, 49, 108, 12, 0), (108, 1, 110, 4, 0), (110, 7, 111, 1, 0), (111, 14, 112, 0, 0), (112, 1, 114, 8, 0), (114, 14, 115, 0, 0), (115, 51, 116, 0, 0), (116, 61, 119, 194, 211), (119, 14, 120, 0, 0), (120, 3, 122, 9, 0), (122, 0, 123, 0, 0), (123, 49, 126, 12, 16), (126, 1, 128, 8, 0), (128, 7, 129, 1, 0), (129, 14, 130, 0, 0), (130, 51, 131, 0, 0), (131, 3, 133, 7, 0), (133, 0, 134, 0, 0), (134, 49, 137, 12, 16), (137, 1, 139, 8, 0), (139, 7, 140, 1, 0), (140, 14, 141, 0, 0), (141, 1, 143, 9, 0), (143, 0, 144, 0, 0), (144, 49, 147, 12, 16), (147, 1, 149, 8, 0), (149, 7, 150, 1, 0), (150, 14, 151, 0, 0), (151, 51, 152, 0, 0), (152, 0, 153, 0, 0), (153, 49, 156, 12, 16), (156, 1, 158, 8, 0), (158, 51, 159, 0, 0), (159, 60, 162, 191, 2), (162, 7, 163, 2, 0), (163, 14, 164, 0, 0), (164, 60, 167, 191, 2), (167, 52, 168, 0, 0), (168, 6, 171, 8, 1), (171, 36, 174, 76, 0)]
theorem ve_X12_spareApart_104 : zget kd_X12_spareApart 104 = vb_X12_spareApart_104.map vq ++ vrest kd_X12_spareApart (some 174) := rfl
def vb_X12_spareApart_174 : List VE := [(174, 6, 177, 6, 1), (177, 36, 180, 47, 0)]
theorem ve_X12_spareApart_174 : zget kd_X12_spareApart 174 = vb_X12_spareApart_174.map vq ++ vrest kd_X12_spareApart (some 180) := rfl
def vb_X12_spareApart_180 : List VE := [(180, 0, 181, 0, 0), (181, 49, 184, 12, 16), (184, 1, 186, 5, 0), (186, 51, 187, 0, 0), (187, 62, 188, 0, 0)]
theorem ve_X12_spareApart_180 : zget kd_X12_spareApart 180 = vb_X12_spareApart_180.map vq ++ vrest kd_X12_spareApart (none) := rfl
def vb_X12_twin_0 : List VE := [(0, 0, 1, 0, 0), (1, 1, 2, 1, 0), (2, 61, 5, 198, 210), (5, 37, 8, 17, 0), (8, 1, 9, 2, 0), (9, 7, 10, 0, 0), (10, 7, 11, 1, 0), (11, 60, 14, 156, 3), (14, 38, 17, 19, 0)]
theorem ve_X12_twin_0 : zget kd_X12_twin 0 = vb_X12_twin_0.map vq ++ vrest kd_X12_twin (some 17) := rfl
def vb_X12_twin_17 : List VE := [(17, 7, 18, 4294967295, 0), (18, 62, 19, 0, 0)]
theorem ve_X12_twin_17 : zget kd_X12_twin 17 = vb_X12_twin_17.map vq ++ vrest kd_X12_twin (some 19) := rfl
def vb_X12_twin_19 : List VE := [(19, 7, 20, 4294967295, 0), (20, 3, 21, 3, 0), (21, 7, 22, 4294967295, 0), (22, 3, 24, 4, 0), (24, 7, 25, 0, 0), (25, 3, 27, 5, 0)]
theorem ve_X12_twin_19 : zget kd_X12_twin 19 = vb_X12_twin_19.map vq ++ vrest kd_X12_twin (some 27) := rfl
def vb_X12_twin_27 : List VE := [(27, 1, 29, 5, 0), (29, 0, 30, 0, 0), (30, 49, 33, 12, 0), (33, 7, 34, 0, 0), (34, 51, 35, 0, 0), (35, 46, 38, 84, 0), (38, 1, 40, 5, 0), (40, 1, 41, 1, 0), (41, 44, 44, 47, 0), (44, 36, 47, 78, 0)]
theorem ve_X12_twin_27 : zget kd_X12_twin 27 = vb_X12_twin_27.map vq ++ vrest kd_X12_twin (some 47) := rfl
def vb_X12_twin_47 : List VE := [(47, 0, 48, 0, 0), (48, 1, 50, 5, 0), (50, 1, 51, 1, 0), (51, 61, 54, 197, 211), (54, 3, 56, 6, 0), (56, 1, 57, 3, 0), (57, 7, 58, 4294967295, 0), (58, 43, 61, 71, 0), (61, 1, 63, 6, 0), (63, 1, 65, 4, 0), (65, 45, 68, 71, 0), (68, 36, 71, 78, 0)]
theorem ve_X12_twin_47 : zget kd_X12_twin 47 = vb_X12_twin_47.map vq ++ vrest kd_X12_twin (some 71) := rfl
def vb_X12_twin_71 : List VE := [(71, 1, 73, 5, 0), (73, 3, 74, 3, 0), (74, 1, 76, 6, 0), (76, 3, 78, 4, 0)]
theorem ve_X12_twin_71 : zget kd_X12_twin 71 = vb_X12_twin_71.map vq ++ vrest kd_X12_twin (some 78) := rfl
def vb_X12_twin_78 : List VE := [(78, 6, 81, 5, 1), (81, 36, 84, 27, 0)]
theorem ve_X12_twin_78 : zget kd_X12_twin 78 = vb_X12_twin_78.map vq ++ vrest kd_X12_twin (some 84) := rfl
def vb_X12_twin_84 : List VE := [(84, 1, 85, 2, 0), (85, 38, 88, 92, 0), (88, 1, 89, 3, 0), (89, 36, 92, 94, 0)]
theorem ve_X12_twin_84 : zget kd_X12_twin 84 = vb_X12_twin_84.map vq ++ vrest kd_X12_twin (some 92) := rfl
def vb_X12_twin_92 : List VE := [(92, 1, 94, 4, 0)]
theorem ve_X12_twin_92 : zget kd_X12_twin 92 = vb_X12_twin_92.map vq ++ vrest kd_X12_twin (some 94) := rfl
def vb_X12_twin_94 : List VE := [(94, 62, 95, 0, 0)]
theorem ve_X12_twin_94 : zget kd_X12_twin 94 = vb_X12_twin_94.map vq ++ vrest kd_X12_twin (none) := rfl
def vb_X12_shedOf_0 : List VE := [(0, 0, 1, 0, 0), (1, 61, 4, 216, 209), (4, 7, 5, 0, 0), (5, 0, 6, 0, 0), (6, 49, 9, 12, 25), (9, 1, 10, 1, 0), (10, 51, 11, 0, 0), (11, 0, 12, 0, 0), (12, 1, 13, 1, 0), (13, 61, 16, 208, 210), (16, 60, 19, 191, 2), (19, 0, 20, 0, 0), (20, 1, 21, 1, 0), (21, 61, 24, 217, 210), (24, 14, 25, 0, 0), (25, 0, 26, 0, 0), (26, 49, 29, 12, 0), (29, 1, 30, 1, 0), (30, 60, 33, 174, 1), (33, 8, 35, 12, 0), (35, 14, 36, 0, 0), (36, 51, 37, 0, 0), (37, 15, 38, 0, 0), (38, 60, 41, 192, 2), (41, 62, 42, 0, 0)]
theorem ve_X12_shedOf_0 : zget kd_X12_shedOf 0 = vb_X12_shedOf_0.map vq ++ vrest kd_X12_shedOf (none) := rfl
def vb_X12_shed_0 : List VE := [(0, 0, 1, 0, 0), (1, 1, 2, 1, 0), (2, 61, 5, 198, 210), (5, 37, 8, 16, 0), (8, 0, 9, 0, 0), (9, 1, 10, 1, 0), (10, 61, 13, 251, 210), (13, 36, 16, 17, 0)]
theorem ve_X12_shed_0 : zget kd_X12_shed 0 = vb_X12_shed_0.map vq ++ vrest kd_X12_shed (some 16) := rfl
def vb_X12_shed_16 : List VE := [(16, 7, 17, 4294967295, 0)]
theorem ve_X12_shed_16 : zget kd_X12_shed 16 = vb_X12_shed_16.map vq ++ vrest kd_X12_shed (some 17) := rfl
def vb_X12_shed_17 : List VE := [(17, 62, 18, 0, 0)]
theorem ve_X12_shed_17 : zget kd_X12_shed 17 = vb_X12_shed_17.map vq ++ vrest kd_X12_shed (none) := rfl
def vb_X12_days_0 : List VE := [(0, 1, 1, 1, 0), (1, 7, 2, 1, 0), (2, 8, 4, 99, 0), (4, 60, 7, 156, 3), (7, 38, 10, 12, 0), (10, 7, 11, 4294967295, 0), (11, 62, 12, 0, 0)]
theorem ve_X12_days_0 : zget kd_X12_days 0 = vb_X12_days_0.map vq ++ vrest kd_X12_days (some 12) := rfl
def vb_X12_days_12 : List VE := [(12, 0, 13, 0, 0), (13, 8, 15, 8, 0), (15, 8, 17, 99, 0), (17, 0, 18, 0, 0), (18, 49, 21, 12, 0), (21, 8, 23, 8, 0), (23, 51, 24, 0, 0), (24, 1, 25, 1, 0), (25, 14, 26, 0, 0), (26, 60, 29, 191, 2), (29, 61, 32, 228, 211), (32, 3, 33, 2, 0), (33, 0, 34, 0, 0), (34, 49, 37, 12, 0), (37, 8, 39, 8, 0), (39, 51, 40, 0, 0), (40, 62, 41, 0, 0)]
theorem ve_X12_days_12 : zget kd_X12_days 12 = vb_X12_days_12.map vq ++ vrest kd_X12_days (none) := rfl
def vb_X12_charge_0 : List VE := [(0, 7, 1, 0, 0), (1, 0, 2, 0, 0), (2, 49, 5, 12, 0), (5, 8, 7, 8, 0), (7, 51, 8, 0, 0), (8, 0, 9, 0, 0), (9, 49, 12, 12, 0), (12, 8, 14, 6, 0), (14, 51, 15, 0, 0), (15, 15, 16, 0, 0), (16, 60, 19, 192, 2), (19, 0, 20, 0, 0), (20, 49, 23, 12, 0), (23, 8, 25, 7, 0), (25, 51, 26, 0, 0), (26, 16, 27, 0, 0), (27, 62, 28, 0, 0)]
theorem ve_X12_charge_0 : zget kd_X12_charge 0 = vb_X12_charge_0.map vq ++ vrest kd_X12_charge (none) := rfl
def vb_X12_rate_0 : List VE := [(0, 1, 1, 1, 0), (1, 7, 2, 0, 0), (2, 8, 4, 99, 0), (4, 60, 7, 156, 3), (7, 37, 10, 21, 0), (10, 1, 11, 2, 0), (11, 7, 12, 0, 0), (12, 9, 15, 999, 0), (15, 60, 18, 156, 3), (18, 38, 21, 23, 0)]
theorem ve_X12_rate_0 : zget kd_X12_rate 0 = vb_X12_rate_0.map vq ++ vrest kd_X12_rate (some 21) := rfl
def vb_X12_rate_21 : List VE := [(21, 7, 22, 4294967295, 0), (22, 62, 23, 0, 0)]
theorem ve_X12_rate_21 : zget kd_X12_rate 21 = vb_X12_rate_21.map vq ++ vrest kd_X12_rate (some 23) := rfl
def vb_X12_rate_23 : List VE := [(23, 0, 24, 0, 0), (24, 61, 27, 158, 209), (27, 0, 28, 0, 0), (28, 49, 31, 12, 0), (31, 8, 33, 6, 0), (33, 1, 34, 1, 0), (34, 52, 35, 0, 0), (35, 0, 36, 0, 0), (36, 49, 39, 12, 0), (39, 8, 41, 7, 0), (41, 1, 42, 2, 0), (42, 52, 43, 0, 0), (43, 0, 44, 0, 0), (44, 61, 47, 254, 209), (47, 62, 48, 0, 0)]
theorem ve_X12_rate_23 : zget kd_X12_rate 23 = vb_X12_rate_23.map vq ++ vrest kd_X12_rate (none) := rfl
def vb_X12_deliver_0 : List VE := [(0, 0, 1, 0, 0), (1, 1, 2, 1, 0), (2, 61, 5, 198, 210), (5, 37, 8, 22, 0), (8, 1, 9, 2, 0), (9, 7, 10, 1, 0), (10, 45, 13, 22, 0), (13, 1, 14, 2, 0), (14, 0, 15, 0, 0), (15, 1, 16, 1, 0), (16, 61, 19, 251, 210), (19, 48, 22, 24, 0)]
theorem ve_X12_deliver_0 : zget kd_X12_deliver 0 = vb_X12_deliver_0.map vq ++ vrest kd_X12_deliver (some 22) := rfl
def vb_X12_deliver_22 : List VE := [(22, 7, 23, 4294967295, 0), (23, 62, 24, 0, 0)]
theorem ve_X12_deliver_22 : zget kd_X12_deliver 22 = vb_X12_deliver_22.map vq ++ vrest kd_X12_deliver (some 24) := rfl
def vb_X12_deliver_24 : List VE := [(24, 0, 25, 0, 0), (25, 61, 28, 158, 209), (28, 0, 29, 0, 0), (29, 49, 32, 12, 0), (32, 1, 33, 1, 0), (33, 60, 36, 174, 1), (36, 8, 38, 12, 0), (38, 14, 39, 0, 0), (39, 34, 40, 0, 0), (40, 51, 41, 0, 0), (41, 1, 42, 2, 0), (42, 14, 43, 0, 0), (43, 52, 44, 0, 0), (44, 0, 45, 0, 0), (45, 49, 48, 12, 0), (48, 8, 50, 9, 0), (50, 34, 51, 0, 0), (51, 51, 52, 0, 0), (52, 1, 53, 2, 0), (53, 0, 54, 0, 0), (54, 61, 57, 254, 209), (57, 16, 58, 0, 0), (58, 14, 59, 0, 0), (59, 52, 60, 0, 0), (60, 1, 61, 2, 0), (61, 0, 62, 0, 0), (62, 61, 65, 254, 209), (65, 16, 66, 0, 0), (66, 62, 67, 0, 0)]
theorem ve_X12_deliver_24 : zget kd_X12_deliver 24 = vb_X12_deliver_24.map vq ++ vrest kd_X12_deliver (none) := rfl
def vb_X12_gone_0 : List VE := [(0, 0, 1, 0, 0), (1, 1, 2, 1, 0), (2, 61, 5, 198, 210), (5, 37, 8, 23, 0), (8, 0, 9, 0, 0), (9, 49, 12, 12, 0), (12, 1, 13, 1, 0), (13, 60, 16, 174, 1), (16, 8, 18, 12, 0), (18, 14, 19, 0, 0), (19, 51, 20, 0, 0), (20, 36, 23, 24, 0)]
theorem ve_X12_gone_0 : zget kd_X12_gone 0 = vb_X12_gone_0.map vq ++ vrest kd_X12_gone (some 23) := rfl
def vb_X12_gone_23 : List VE := [(23, 7, 24, 4294967295, 0)]
theorem ve_X12_gone_23 : zget kd_X12_gone 23 = vb_X12_gone_23.map vq ++ vrest kd_X12_gone (some 24) := rfl
def vb_X12_gone_24 : List VE := [(24, 62, 25, 0, 0)]
theorem ve_X12_gone_24 : zget kd_X12_gone 24 = vb_X12_gone_24.map vq ++ vrest kd_X12_gone (none) := rfl
def vb_X12_isNear_0 : List VE := [(0, 0, 1, 0, 0), (1, 1, 2, 1, 0), (2, 60, 5, 175, 1), (5, 7, 6, 3, 0), (6, 14, 7, 0, 0), (7, 1, 8, 1, 0), (8, 60, 11, 175, 1), (11, 7, 12, 4, 0), (12, 14, 13, 0, 0), (13, 61, 16, 201, 211), (16, 0, 17, 0, 0), (17, 1, 18, 1, 0), (18, 1, 19, 2, 0), (19, 61, 22, 196, 211), (22, 0, 23, 0, 0), (23, 49, 26, 12, 17), (26, 44, 29, 33, 0), (29, 7, 30, 1, 0), (30, 36, 33, 34, 0)]
theorem ve_X12_isNear_0 : zget kd_X12_isNear 0 = vb_X12_isNear_0.map vq ++ vrest kd_X12_isNear (some 33) := rfl
def vb_X12_isNear_33 : List VE := [(33, 7, 34, 0, 0)]
theorem ve_X12_isNear_33 : zget kd_X12_isNear 33 = vb_X12_isNear_33.map vq ++ vrest kd_X12_isNear (some 34) := rfl
def vb_X12_isNear_34 : List VE := [(34, 62, 35, 2, 0)]
theorem ve_X12_isNear_34 : zget kd_X12_isNear 34 = vb_X12_isNear_34.map vq ++ vrest kd_X12_isNear (none) := rfl
def vb_X12_comesTo_0 : List VE := [(0, 1, 1, 3, 0), (1, 0, 2, 0, 0), (2, 49, 5, 12, 0), (5, 1, 6, 1, 0), (6, 60, 9, 175, 1), (9, 7, 10, 2, 0), (10, 14, 11, 0, 0), (11, 51, 12, 0, 0), (12, 16, 13, 0, 0), (13, 3, 15, 4, 0), (15, 0, 16, 0, 0), (16, 49, 19, 12, 0), (19, 1, 20, 1, 0), (20, 60, 23, 175, 1), (23, 7, 24, 0, 0), (24, 14, 25, 0, 0), (25, 51, 26, 0, 0), (26, 38, 29, 43, 0), (29, 0, 30, 0, 0), (30, 49, 33, 12, 23), (33, 1, 34, 2, 0), (34, 34, 35, 0, 0), (35, 51, 36, 0, 0), (36, 1, 38, 4, 0), (38, 14, 39, 0, 0), (39, 52, 40, 0, 0), (40, 36, 43, 54, 0)]
theorem ve_X12_comesTo_0 : zget kd_X12_comesTo 0 = vb_X12_comesTo_0.map vq ++ vrest kd_X12_comesTo (some 43) := rfl
def vb_X12_comesTo_43 : List VE := [(43, 0, 44, 0, 0), (44, 49, 47, 12, 24), (47, 1, 48, 2, 0), (48, 34, 49, 0, 0), (49, 51, 50, 0, 0), (50, 1, 52, 4, 0), (52, 14, 53, 0, 0), (53, 52, 54, 0, 0)]
theorem ve_X12_comesTo_43 : zget kd_X12_comesTo 43 = vb_X12_comesTo_43.map vq ++ vrest kd_X12_comesTo (some 54) := rfl
def vb_X12_comesTo_54 : List VE := [(54, 65, 55, 0, 0)]
theorem ve_X12_comesTo_54 : zget kd_X12_comesTo 54 = vb_X12_comesTo_54.map vq ++ vrest kd_X12_comesTo (none) := rfl
def vb_X12_offOf_0 : List VE := [(0, 0, 1, 0, 0), (1, 1, 2, 1, 0), (2, 61, 5, 208, 210), (5, 0, 6, 0, 0), (6, 0, 7, 0, 0), (7, 49, 10, 12, 23), (10, 1, 11, 1, 0), (11, 51, 12, 0, 0), (12, 0, 13, 0, 0), (13, 49, 16, 12, 24), (16, 1, 17, 1, 0), (17, 51, 18, 0, 0), (18, 0, 19, 0, 0), (19, 49, 22, 12, 0), (22, 1, 23, 1, 0), (23, 60, 26, 174, 1), (26, 8, 28, 9, 0), (28, 14, 29, 0, 0), (29, 51, 30, 0, 0), (30, 61, 33, 193, 212), (33, 15, 34, 0, 0), (34, 3, 35, 2, 0), (35, 1, 36, 2, 0), (36, 40, 39, 44, 0), (39, 1, 40, 2, 0), (40, 25, 41, 0, 0), (41, 36, 44, 45, 0)]
theorem ve_X12_offOf_0 : zget kd_X12_offOf 0 = vb_X12_offOf_0.map vq ++ vrest kd_X12_offOf (some 44) := rfl
def vb_X12_offOf_44 : List VE := [(44, 1, 45, 2, 0)]
theorem ve_X12_offOf_44 : zget kd_X12_offOf 44 = vb_X12_offOf_44.map vq ++ vrest kd_X12_offOf (some 45) := rfl
def vb_X12_offOf_45 : List VE := [(45, 62, 46, 0, 0)]
theorem ve_X12_offOf_45 : zget kd_X12_offOf 45 = vb_X12_offOf_45.map vq ++ vrest kd_X12_offOf (none) := rfl
def vb_X12_laySettled_0 : List VE := [(0, 0, 1, 0, 0), (1, 61, 4, 207, 209), (4, 0, 5, 0, 0), (5, 7, 6, 0, 0), (6, 50, 9, 12, 47), (9, 7, 10, 0, 0), (10, 3, 11, 1, 0)]
theorem ve_X12_laySettled_0 : zget kd_X12_laySettled 0 = vb_X12_laySettled_0.map vq ++ vrest kd_X12_laySettled (some 11) := rfl
def vb_X12_laySettled_11 : List VE := [(11, 1, 12, 1, 0), (12, 0, 13, 0, 0), (13, 49, 16, 12, 0), (16, 7, 17, 2, 0), (17, 51, 18, 0, 0), (18, 46, 21, 61, 0), (21, 0, 22, 0, 0), (22, 49, 25, 12, 20), (25, 1, 26, 1, 0), (26, 51, 27, 0, 0), (27, 8, 29, 4294967294, 0), (29, 43, 32, 35, 0), (32, 36, 35, 55, 0)]
theorem ve_X12_laySettled_11 : zget kd_X12_laySettled 11 = vb_X12_laySettled_11.map vq ++ vrest kd_X12_laySettled (some 35) := rfl
def vb_X12_laySettled_35 : List VE := [(35, 0, 36, 0, 0), (36, 49, 39, 12, 44), (39, 0, 40, 0, 0), (40, 49, 43, 12, 47), (43, 1, 44, 1, 0), (44, 52, 45, 0, 0), (45, 0, 46, 0, 0), (46, 33, 47, 0, 0), (47, 49, 50, 12, 47), (50, 7, 51, 1, 0), (51, 14, 52, 0, 0), (52, 50, 55, 12, 47)]
theorem ve_X12_laySettled_35 : zget kd_X12_laySettled 35 = vb_X12_laySettled_35.map vq ++ vrest kd_X12_laySettled (some 55) := rfl
def vb_X12_laySettled_55 : List VE := [(55, 6, 58, 1, 1), (58, 36, 61, 11, 0)]
theorem ve_X12_laySettled_55 : zget kd_X12_laySettled 55 = vb_X12_laySettled_55.map vq ++ vrest kd_X12_laySettled (some 61) := rfl
def vb_X12_laySettled_61 : List VE := [(61, 0, 62, 0, 0), (62, 49, 65, 12, 47), (65, 7, 66, 1, 0), (66, 7, 67, 5, 0), (67, 60, 70, 156, 3), (70, 38, 73, 75, 0), (73, 7, 74, 0, 0), (74, 62, 75, 2, 0)]
theorem ve_X12_laySettled_61 : zget kd_X12_laySettled 61 = vb_X12_laySettled_61.map vq ++ vrest kd_X12_laySettled (some 75) := rfl
def vb_X12_laySettled_75 : List VE := [(75, 7, 76, 0, 0), (76, 3, 77, 1, 0), (77, 7, 78, 0, 0), (78, 3, 79, 2, 0)]
theorem ve_X12_laySettled_75 : zget kd_X12_laySettled 75 = vb_X12_laySettled_75.map vq ++ vrest kd_X12_laySettled (some 79) := rfl
def vb_X12_laySettled_79 : List VE := [(79, 1, 80, 2, 0), (80, 0, 81, 0, 0), (81, 49, 84, 12, 0), (84, 7, 85, 0, 0), (85, 51, 86, 0, 0), (86, 46, 89, 103, 0), (89, 1, 90, 1, 0), (90, 0, 91, 0, 0), (91, 1, 92, 2, 0), (92, 61, 95, 260, 210), (95, 14, 96, 0, 0), (96, 3, 97, 1, 0), (97, 6, 100, 2, 1), (100, 36, 103, 79, 0)]
theorem ve_X12_laySettled_79 : zget kd_X12_laySettled 79 = vb_X12_laySettled_79.map vq ++ vrest kd_X12_laySettled (some 103) := rfl
def vb_X12_laySettled_103 : List VE := [(103, 7, 104, 0, 0), (104, 3, 105, 2, 0)]
theorem ve_X12_laySettled_103 : zget kd_X12_laySettled 103 = vb_X12_laySettled_103.map vq ++ vrest kd_X12_laySettled (some 105) := rfl
def vb_X12_laySettled_105 : List VE := [(105, 1, 106, 2, 0), (106, 0, 107, 0, 0), (107, 49, 110, 12, 47), (110, 46, 113, 171, 0), (113, 7, 114, 0, 0), (114, 3, 115, 3, 0)]
theorem ve_X12_laySettled_105 : zget kd_X12_laySettled 105 = vb_X12_laySettled_105.map vq ++ vrest kd_X12_laySettled (some 115) := rfl
def vb_X12_laySettled_115 : List VE := [(115, 1, 116, 3, 0), (116, 8, 118, 12, 0), (118, 46, 121, 165, 0), (121, 0, 122, 0, 0), (122, 49, 125, 12, 49), (125, 8, 127, 12, 0), (127, 1, 128, 2, 0), (128, 16, 129, 0, 0), (129, 1, 130, 3, 0), (130, 14, 131, 0, 0), (131, 0, 132, 0, 0), (132, 1, 133, 3, 0), (133, 61, 136, 198, 210), (136, 37, 139, 157, 0), (139, 0, 140, 0, 0), (140, 0, 141, 0, 0), (141, 49, 144, 12, 44), (144, 1, 145, 2, 0), (145, 51, 146, 0, 0), (146, 1, 147, 3, 0), (147, 61, 150, 258, 211), (150, 37, 153, 157, 0), (153, 7, 154, 1, 0), (154, 36, 157, 158, 0)]
theorem ve_X12_laySettled_115 : zget kd_X12_laySettled 115 = vb_X12_laySettled_115.map vq ++ vrest kd_X12_laySettled (some 157) := rfl
def vb_X12_laySettled_157 : List VE := [(157, 7, 158, 0, 0)]
theorem ve_X12_laySettled_157 : zget kd_X12_laySettled 157 = vb_X12_laySettled_157.map vq ++ vrest kd_X12_laySettled (some 158) := rfl
def vb_X12_laySettled_158 : List VE := [(158, 58, 159, 0, 0), (159, 6, 162, 3, 1), (162, 36, 165, 115, 0)]
theorem ve_X12_laySettled_158 : zget kd_X12_laySettled 158 = vb_X12_laySettled_158.map vq ++ vrest kd_X12_laySettled (some 165) := rfl
def vb_X12_laySettled_165 : List VE := [(165, 6, 168, 2, 1), (168, 36, 171, 105, 0)]
theorem ve_X12_laySettled_165 : zget kd_X12_laySettled 165 = vb_X12_laySettled_165.map vq ++ vrest kd_X12_laySettled (some 171) := rfl
def vb_X12_laySettled_171 : List VE := [(171, 0, 172, 0, 0), (172, 7, 173, 4294967295, 0), (173, 50, 176, 12, 48), (176, 7, 177, 0, 0), (177, 3, 178, 2, 0), (178, 0, 179, 0, 0), (179, 49, 182, 12, 45), (182, 7, 183, 0, 0), (183, 7, 184, 4294967295, 0), (184, 52, 185, 0, 0)]
theorem ve_X12_laySettled_171 : zget kd_X12_laySettled 171 = vb_X12_laySettled_171.map vq ++ vrest kd_X12_laySettled (some 185) := rfl
def vb_X12_laySettled_185 : List VE := [(185, 1, 186, 2, 0), (186, 39, 189, 357, 0), (189, 0, 190, 0, 0), (190, 49, 193, 12, 45), (193, 1, 194, 2, 0), (194, 51, 195, 0, 0), (195, 7, 196, 4294967295, 0), (196, 43, 199, 214, 0), (199, 1, 200, 1, 0), (200, 0, 201, 0, 0), (201, 1, 202, 2, 0), (202, 0, 203, 0, 0), (203, 49, 206, 12, 45), (206, 1, 207, 2, 0), (207, 51, 208, 0, 0), (208, 7, 209, 4294967295, 0), (209, 61, 212, 262, 212), (212, 14, 213, 0, 0), (213, 3, 214, 1, 0)]
theorem ve_X12_laySettled_185 : zget kd_X12_laySettled 185 = vb_X12_laySettled_185.map vq ++ vrest kd_X12_laySettled (some 214) := rfl
def vb_X12_laySettled_214 : List VE := [(214, 0, 215, 0, 0), (215, 49, 218, 12, 45), (218, 1, 219, 2, 0), (219, 51, 220, 0, 0), (220, 7, 221, 1, 0), (221, 14, 222, 0, 0), (222, 3, 223, 3, 0)]
theorem ve_X12_laySettled_214 : zget kd_X12_laySettled 214 = vb_X12_laySettled_214.map vq ++ vrest kd_X12_laySettled (some 223) := rfl
def vb_X12_laySettled_223 : List VE := [(223, 1, 224, 3, 0), (224, 8, 226, 12, 0), (226, 46, 229, 249, 0), (229, 0, 230, 0, 0), (230, 49, 233, 12, 49), (233, 8, 235, 12, 0), (235, 1, 236, 2, 0), (236, 16, 237, 0, 0), (237, 1, 238, 3, 0), (238, 14, 239, 0, 0), (239, 57, 240, 0, 0), (240, 38, 243, 249, 0), (243, 6, 246, 3, 1), (246, 36, 249, 223, 0)]
theorem ve_X12_laySettled_223 : zget kd_X12_laySettled 223 = vb_X12_laySettled_223.map vq ++ vrest kd_X12_laySettled (some 249) := rfl
def vb_X12_laySettled_249 : List VE := [(249, 0, 250, 0, 0), (250, 49, 253, 12, 45), (253, 1, 254, 2, 0), (254, 1, 255, 3, 0), (255, 52, 256, 0, 0), (256, 1, 257, 3, 0), (257, 8, 259, 12, 0), (259, 44, 262, 268, 0), (262, 6, 265, 2, 4294967295), (265, 36, 268, 185, 0)]
theorem ve_X12_laySettled_249 : zget kd_X12_laySettled 249 = vb_X12_laySettled_249.map vq ++ vrest kd_X12_laySettled (some 268) := rfl
def vb_X12_laySettled_268 : List VE := [(268, 1, 269, 1, 0), (269, 0, 270, 0, 0), (270, 1, 271, 2, 0), (271, 1, 272, 3, 0), (272, 7, 273, 1, 0), (273, 61, 276, 262, 212), (276, 14, 277, 0, 0), (277, 3, 278, 1, 0), (278, 1, 279, 2, 0), (279, 7, 280, 1, 0), (280, 14, 281, 0, 0), (281, 0, 282, 0, 0), (282, 49, 285, 12, 47), (285, 46, 288, 301, 0), (288, 6, 291, 2, 1), (291, 0, 292, 0, 0), (292, 49, 295, 12, 45), (295, 1, 296, 2, 0), (296, 7, 297, 4294967295, 0), (297, 52, 298, 0, 0), (298, 36, 301, 354, 0)]
theorem ve_X12_laySettled_268 : zget kd_X12_laySettled 268 = vb_X12_laySettled_268.map vq ++ vrest kd_X12_laySettled (some 301) := rfl
def vb_X12_laySettled_301 : List VE := [(301, 0, 302, 0, 0), (302, 49, 305, 12, 48), (305, 7, 306, 4294967295, 0), (306, 43, 309, 317, 0), (309, 1, 310, 1, 0), (310, 0, 311, 0, 0), (311, 49, 314, 12, 48), (314, 46, 317, 354, 0)]
theorem ve_X12_laySettled_301 : zget kd_X12_laySettled 301 = vb_X12_laySettled_301.map vq ++ vrest kd_X12_laySettled (some 317) := rfl
def vb_X12_laySettled_317 : List VE := [(317, 0, 318, 0, 0), (318, 1, 319, 1, 0), (319, 50, 322, 12, 48), (322, 7, 323, 0, 0), (323, 3, 325, 4, 0)]
theorem ve_X12_laySettled_317 : zget kd_X12_laySettled 317 = vb_X12_laySettled_317.map vq ++ vrest kd_X12_laySettled (some 325) := rfl
def vb_X12_laySettled_325 : List VE := [(325, 1, 327, 4, 0), (327, 0, 328, 0, 0), (328, 49, 331, 12, 47), (331, 46, 334, 354, 0), (334, 0, 335, 0, 0), (335, 49, 338, 12, 46), (338, 1, 340, 4, 0), (340, 0, 341, 0, 0), (341, 49, 344, 12, 45), (344, 1, 346, 4, 0), (346, 51, 347, 0, 0), (347, 52, 348, 0, 0), (348, 6, 351, 4, 1), (351, 36, 354, 325, 0)]
theorem ve_X12_laySettled_325 : zget kd_X12_laySettled 325 = vb_X12_laySettled_325.map vq ++ vrest kd_X12_laySettled (some 354) := rfl
def vb_X12_laySettled_354 : List VE := [(354, 36, 357, 185, 0)]
theorem ve_X12_laySettled_354 : zget kd_X12_laySettled 354 = vb_X12_laySettled_354.map vq ++ vrest kd_X12_laySettled (some 357) := rfl
def vb_X12_laySettled_357 : List VE := [(357, 7, 358, 1, 0), (358, 62, 359, 2, 0)]
theorem ve_X12_laySettled_357 : zget kd_X12_laySettled 357 = vb_X12_laySettled_357.map vq ++ vrest kd_X12_laySettled (none) := rfl
def vb_X12_takes__0 : List VE := [(0, 0, 1, 0, 0), (1, 1, 2, 2, 0), (2, 61, 5, 260, 210), (5, 3, 7, 4, 0), (7, 0, 8, 0, 0), (8, 0, 9, 0, 0), (9, 49, 12, 12, 44), (12, 1, 13, 1, 0), (13, 51, 14, 0, 0), (14, 1, 15, 2, 0), (15, 1, 16, 3, 0), (16, 61, 19, 259, 212), (19, 0, 20, 0, 0), (20, 1, 21, 2, 0), (21, 61, 24, 260, 210), (24, 1, 26, 4, 0), (26, 15, 27, 0, 0), (27, 62, 28, 0, 0)]
theorem ve_X12_takes__0 : zget kd_X12_takes_ 0 = vb_X12_takes__0.map vq ++ vrest kd_X12_takes_ (none) := rfl
def vb_X12_settled_0 : List VE := [(0, 1, 1, 1, 0), (1, 7, 2, 4294967295, 0), (2, 43, 5, 13, 0), (5, 0, 6, 0, 0), (6, 1, 7, 1, 0), (7, 61, 10, 199, 210), (10, 37, 13, 20, 0)]
theorem ve_X12_settled_0 : zget kd_X12_settled 0 = vb_X12_settled_0.map vq ++ vrest kd_X12_settled (some 13) := rfl
def vb_X12_settled_13 : List VE := [(13, 0, 14, 0, 0), (14, 61, 17, 261, 209), (17, 38, 20, 22, 0)]
theorem ve_X12_settled_13 : zget kd_X12_settled 13 = vb_X12_settled_13.map vq ++ vrest kd_X12_settled (some 20) := rfl
def vb_X12_settled_20 : List VE := [(20, 7, 21, 4294967295, 0), (21, 62, 22, 0, 0)]
theorem ve_X12_settled_20 : zget kd_X12_settled 20 = vb_X12_settled_20.map vq ++ vrest kd_X12_settled (some 22) := rfl
def vb_X12_settled_22 : List VE := [(22, 1, 23, 1, 0), (23, 7, 24, 4294967295, 0), (24, 44, 27, 32, 0), (27, 0, 28, 0, 0), (28, 49, 31, 12, 48), (31, 62, 32, 0, 0)]
theorem ve_X12_settled_22 : zget kd_X12_settled 22 = vb_X12_settled_22.map vq ++ vrest kd_X12_settled (some 32) := rfl
def vb_X12_settled_32 : List VE := [(32, 7, 33, 0, 0), (33, 3, 34, 2, 0)]
theorem ve_X12_settled_32 : zget kd_X12_settled 32 = vb_X12_settled_32.map vq ++ vrest kd_X12_settled (some 34) := rfl
def vb_X12_settled_34 : List VE := [(34, 1, 35, 2, 0), (35, 0, 36, 0, 0), (36, 49, 39, 12, 47), (39, 46, 42, 65, 0), (42, 0, 43, 0, 0), (43, 49, 46, 12, 44), (46, 1, 47, 2, 0), (47, 51, 48, 0, 0), (48, 1, 49, 1, 0), (49, 44, 52, 59, 0), (52, 0, 53, 0, 0), (53, 49, 56, 12, 46), (56, 1, 57, 2, 0), (57, 51, 58, 0, 0), (58, 62, 59, 0, 0)]
theorem ve_X12_settled_34 : zget kd_X12_settled 34 = vb_X12_settled_34.map vq ++ vrest kd_X12_settled (some 59) := rfl
def vb_X12_settled_59 : List VE := [(59, 6, 62, 2, 1), (62, 36, 65, 34, 0)]
theorem ve_X12_settled_59 : zget kd_X12_settled 59 = vb_X12_settled_59.map vq ++ vrest kd_X12_settled (some 65) := rfl
def vb_X12_settled_65 : List VE := [(65, 7, 66, 4294967295, 0), (66, 62, 67, 0, 0)]
theorem ve_X12_settled_65 : zget kd_X12_settled 65 = vb_X12_settled_65.map vq ++ vrest kd_X12_settled (none) := rfl
def vb_X12_isCure_0 : List VE := [(0, 0, 1, 0, 0), (1, 49, 4, 12, 0), (4, 7, 5, 1, 0), (5, 51, 6, 0, 0), (6, 3, 8, 4, 0), (8, 0, 9, 0, 0), (9, 49, 12, 12, 0), (12, 8, 14, 76, 0), (14, 7, 15, 2, 0), (15, 1, 17, 4, 0), (17, 16, 18, 0, 0), (18, 14, 19, 0, 0), (19, 1, 20, 2, 0), (20, 52, 21, 0, 0), (21, 0, 22, 0, 0), (22, 49, 25, 12, 0), (25, 8, 27, 76, 0), (27, 7, 28, 2, 0), (28, 1, 30, 4, 0), (30, 16, 31, 0, 0), (31, 14, 32, 0, 0), (32, 7, 33, 1, 0), (33, 14, 34, 0, 0), (34, 1, 35, 3, 0), (35, 52, 36, 0, 0), (36, 0, 37, 0, 0), (37, 49, 40, 12, 0), (40, 7, 41, 1, 0), (41, 1, 43, 4, 0), (43, 7, 44, 1, 0), (44, 14, 45, 0, 0), (45, 52, 46, 0, 0), (46, 0, 47, 0, 0), (47, 1, 48, 1, 0), (48, 61, 51, 203, 210), (51, 39, 54, 58, 0), (54, 7, 55, 1, 0), (55, 36, 58, 59, 0)]
theorem ve_X12_isCure_0 : zget kd_X12_isCure 0 = vb_X12_isCure_0.map vq ++ vrest kd_X12_isCure (some 58) := rfl
def vb_X12_isCure_58 : List VE := [(58, 7, 59, 0, 0)]
theorem ve_X12_isCure_58 : zget kd_X12_isCure 58 = vb_X12_isCure_58.map vq ++ vrest kd_X12_isCure (some 59) := rfl
def vb_X12_isCure_59 : List VE := [(59, 3, 61, 5, 0), (61, 0, 62, 0, 0), (62, 49, 65, 12, 0), (65, 7, 66, 1, 0), (66, 1, 68, 4, 0), (68, 52, 69, 0, 0), (69, 1, 71, 5, 0), (71, 62, 72, 2, 0)]
theorem ve_X12_isCure_59 : zget kd_X12_isCure 59 = vb_X12_isCure_59.map vq ++ vrest kd_X12_isCure (none) := rfl
def vb_X12_cure_0 : List VE := [(0, 0, 1, 0, 0), (1, 1, 2, 1, 0), (2, 61, 5, 199, 210), (5, 37, 8, 27, 0), (8, 0, 9, 0, 0), (9, 49, 12, 12, 0), (12, 7, 13, 1, 0), (13, 51, 14, 0, 0), (14, 8, 16, 8, 0), (16, 43, 19, 27, 0), (19, 0, 20, 0, 0), (20, 1, 21, 1, 0), (21, 61, 24, 203, 210), (24, 39, 27, 29, 0)]
theorem ve_X12_cure_0 : zget kd_X12_cure 0 = vb_X12_cure_0.map vq ++ vrest kd_X12_cure (some 27) := rfl
def vb_X12_cure_27 : List VE := [(27, 7, 28, 4294967295, 0), (28, 62, 29, 0, 0)]
theorem ve_X12_cure_27 : zget kd_X12_cure 27 = vb_X12_cure_27.map vq ++ vrest kd_X12_cure (some 29) := rfl
def vb_X12_cure_29 : List VE := [(29, 7, 30, 0, 0), (30, 3, 31, 2, 0)]
theorem ve_X12_cure_29 : zget kd_X12_cure 29 = vb_X12_cure_29.map vq ++ vrest kd_X12_cure (some 31) := rfl
def vb_X12_cure_31 : List VE := [(31, 1, 32, 2, 0), (32, 0, 33, 0, 0), (33, 49, 36, 12, 0), (36, 1, 37, 1, 0), (37, 60, 40, 175, 1), (40, 7, 41, 3, 0), (41, 14, 42, 0, 0), (42, 51, 43, 0, 0), (43, 46, 46, 149, 0), (46, 0, 47, 0, 0), (47, 49, 50, 12, 0), (50, 1, 51, 1, 0), (51, 60, 54, 175, 1), (54, 7, 55, 4, 0), (55, 14, 56, 0, 0), (56, 1, 57, 2, 0), (57, 14, 58, 0, 0), (58, 51, 59, 0, 0), (59, 3, 60, 3, 0), (60, 7, 61, 0, 0), (61, 3, 63, 4, 0)]
theorem ve_X12_cure_31 : zget kd_X12_cure 31 = vb_X12_cure_31.map vq ++ vrest kd_X12_cure (some 63) := rfl
def vb_X12_cure_63 : List VE := [(63, 1, 65, 4, 0), (65, 8, 67, 36, 0), (67, 46, 70, 143, 0), (70, 1, 71, 3, 0), (71, 8, 73, 46, 0), (73, 43, 76, 143, 0), (76, 1, 78, 4, 0), (78, 8, 80, 26, 0), (80, 46, 83, 91, 0), (83, 8, 85, 65, 0), (85, 1, 87, 4, 0), (87, 14, 88, 0, 0), (88, 36, 91, 99, 0)]
theorem ve_X12_cure_63 : zget kd_X12_cure 63 = vb_X12_cure_63.map vq ++ vrest kd_X12_cure (some 91) := rfl
def vb_X12_cure_91 : List VE := [(91, 8, 93, 48, 0), (93, 1, 95, 4, 0), (95, 14, 96, 0, 0), (96, 8, 98, 26, 0), (98, 15, 99, 0, 0)]
theorem ve_X12_cure_91 : zget kd_X12_cure 91 = vb_X12_cure_91.map vq ++ vrest kd_X12_cure (some 99) := rfl
def vb_X12_cure_99 : List VE := [(99, 3, 101, 5, 0), (101, 1, 102, 3, 0), (102, 1, 104, 5, 0), (104, 43, 107, 137, 0), (107, 0, 108, 0, 0), (108, 1, 109, 3, 0), (109, 1, 111, 5, 0), (111, 61, 114, 173, 211), (114, 38, 117, 137, 0), (117, 0, 118, 0, 0), (118, 1, 119, 1, 0), (119, 1, 120, 3, 0), (120, 1, 122, 5, 0), (122, 61, 125, 264, 212), (125, 37, 128, 137, 0), (128, 9, 131, 256, 0), (131, 1, 132, 3, 0), (132, 16, 133, 0, 0), (133, 1, 135, 5, 0), (135, 14, 136, 0, 0), (136, 62, 137, 0, 0)]
theorem ve_X12_cure_99 : zget kd_X12_cure 99 = vb_X12_cure_99.map vq ++ vrest kd_X12_cure (some 137) := rfl
def vb_X12_cure_137 : List VE := [(137, 6, 140, 4, 1), (140, 36, 143, 63, 0)]
theorem ve_X12_cure_137 : zget kd_X12_cure 137 = vb_X12_cure_137.map vq ++ vrest kd_X12_cure (some 143) := rfl
def vb_X12_cure_143 : List VE := [(143, 6, 146, 2, 1), (146, 36, 149, 31, 0)]
theorem ve_X12_cure_143 : zget kd_X12_cure 143 = vb_X12_cure_143.map vq ++ vrest kd_X12_cure (some 149) := rfl
def vb_X12_cure_149 : List VE := [(149, 7, 150, 4294967295, 0), (150, 62, 151, 0, 0)]
theorem ve_X12_cure_149 : zget kd_X12_cure 149 = vb_X12_cure_149.map vq ++ vrest kd_X12_cure (none) := rfl
def vb_X12_strike_0 : List VE := [(0, 0, 1, 0, 0), (1, 1, 2, 1, 0), (2, 61, 5, 199, 210), (5, 38, 8, 10, 0), (8, 7, 9, 4294967295, 0), (9, 62, 10, 0, 0)]
theorem ve_X12_strike_0 : zget kd_X12_strike 0 = vb_X12_strike_0.map vq ++ vrest kd_X12_strike (some 10) := rfl
def vb_X12_strike_10 : List VE := [(10, 0, 11, 0, 0), (11, 61, 14, 158, 209), (14, 1, 15, 1, 0), (15, 60, 18, 175, 1), (18, 3, 19, 2, 0)]
theorem ve_X12_strike_10 : zget kd_X12_strike 10 = vb_X12_strike_10.map vq ++ vrest kd_X12_strike (some 19) := rfl
def vb_X12_strike_19 : List VE := [(19, 1, 20, 2, 0), (20, 8, 22, 12, 0), (22, 14, 23, 0, 0), (23, 9, 26, 1124, 0), (26, 46, 29, 50, 0), (29, 0, 30, 0, 0), (30, 49, 33, 12, 0), (33, 1, 34, 2, 0), (34, 0, 35, 0, 0), (35, 49, 38, 12, 0), (38, 1, 39, 2, 0), (39, 8, 41, 12, 0), (41, 14, 42, 0, 0), (42, 51, 43, 0, 0), (43, 52, 44, 0, 0), (44, 6, 47, 2, 1), (47, 36, 50, 19, 0)]
theorem ve_X12_strike_19 : zget kd_X12_strike 19 = vb_X12_strike_19.map vq ++ vrest kd_X12_strike (some 50) := rfl
def vb_X12_strike_50 : List VE := [(50, 0, 51, 0, 0), (51, 49, 54, 12, 0), (54, 7, 55, 2, 0), (55, 34, 56, 0, 0), (56, 51, 57, 0, 0), (57, 7, 58, 1, 0), (58, 15, 59, 0, 0), (59, 52, 60, 0, 0), (60, 0, 61, 0, 0), (61, 49, 64, 12, 0), (64, 7, 65, 2, 0), (65, 51, 66, 0, 0), (66, 62, 67, 0, 0)]
theorem ve_X12_strike_50 : zget kd_X12_strike 50 = vb_X12_strike_50.map vq ++ vrest kd_X12_strike (none) := rfl
def vb_X12_writes_0 : List VE := [(0, 0, 1, 0, 0), (1, 49, 4, 12, 50), (4, 0, 5, 0, 0), (5, 49, 8, 12, 51), (8, 1, 9, 1, 0), (9, 26, 10, 0, 0), (10, 58, 11, 0, 0), (11, 0, 12, 0, 0), (12, 33, 13, 0, 0), (13, 49, 16, 12, 51), (16, 7, 17, 1, 0), (17, 14, 18, 0, 0), (18, 50, 21, 12, 51), (21, 65, 22, 0, 0)]
theorem ve_X12_writes_0 : zget kd_X12_writes 0 = vb_X12_writes_0.map vq ++ vrest kd_X12_writes (none) := rfl
def vb_X12_writeNumber_0 : List VE := [(0, 1, 1, 1, 0), (1, 9, 4, 999, 0), (4, 48, 7, 19, 0), (7, 0, 8, 0, 0), (8, 8, 10, 48, 0), (10, 1, 11, 1, 0), (11, 9, 14, 1000, 0), (14, 17, 15, 0, 0), (15, 14, 16, 0, 0), (16, 61, 19, 267, 210)]
theorem ve_X12_writeNumber_0 : zget kd_X12_writeNumber 0 = vb_X12_writeNumber_0.map vq ++ vrest kd_X12_writeNumber (some 19) := rfl
def vb_X12_writeNumber_19 : List VE := [(19, 1, 20, 1, 0), (20, 8, 22, 99, 0), (22, 48, 25, 39, 0), (25, 0, 26, 0, 0), (26, 8, 28, 48, 0), (28, 1, 29, 1, 0), (29, 8, 31, 100, 0), (31, 17, 32, 0, 0), (32, 8, 34, 10, 0), (34, 18, 35, 0, 0), (35, 14, 36, 0, 0), (36, 61, 39, 267, 210)]
theorem ve_X12_writeNumber_19 : zget kd_X12_writeNumber 19 = vb_X12_writeNumber_19.map vq ++ vrest kd_X12_writeNumber (some 39) := rfl
def vb_X12_writeNumber_39 : List VE := [(39, 1, 40, 1, 0), (40, 8, 42, 9, 0), (42, 48, 45, 59, 0), (45, 0, 46, 0, 0), (46, 8, 48, 48, 0), (48, 1, 49, 1, 0), (49, 8, 51, 10, 0), (51, 17, 52, 0, 0), (52, 8, 54, 10, 0), (54, 18, 55, 0, 0), (55, 14, 56, 0, 0), (56, 61, 59, 267, 210)]
theorem ve_X12_writeNumber_39 : zget kd_X12_writeNumber 39 = vb_X12_writeNumber_39.map vq ++ vrest kd_X12_writeNumber (some 59) := rfl
def vb_X12_writeNumber_59 : List VE := [(59, 0, 60, 0, 0), (60, 8, 62, 48, 0), (62, 1, 63, 1, 0), (63, 8, 65, 10, 0), (65, 18, 66, 0, 0), (66, 14, 67, 0, 0), (67, 61, 70, 267, 210), (70, 65, 71, 0, 0)]
theorem ve_X12_writeNumber_59 : zget kd_X12_writeNumber 59 = vb_X12_writeNumber_59.map vq ++ vrest kd_X12_writeNumber (none) := rfl
def vb_X12_write_0 : List VE := [(0, 0, 1, 0, 0), (1, 7, 2, 0, 0), (2, 50, 5, 12, 51), (5, 7, 6, 0, 0), (6, 3, 7, 1, 0)]
theorem ve_X12_write_0 : zget kd_X12_write 0 = vb_X12_write_0.map vq ++ vrest kd_X12_write (some 7) := rfl
def vb_X12_write_7 : List VE := [(7, 1, 8, 1, 0), (8, 0, 9, 0, 0), (9, 49, 12, 12, 0), (12, 7, 13, 0, 0), (13, 51, 14, 0, 0), (14, 46, 17, 112, 0), (17, 1, 18, 1, 0), (18, 60, 21, 174, 1), (21, 3, 22, 2, 0), (22, 0, 23, 0, 0), (23, 8, 25, 98, 0), (25, 61, 28, 267, 210), (28, 7, 29, 0, 0), (29, 3, 30, 3, 0)]
theorem ve_X12_write_7 : zget kd_X12_write 7 = vb_X12_write_7.map vq ++ vrest kd_X12_write (some 30) := rfl
def vb_X12_write_30 : List VE := [(30, 1, 31, 3, 0), (31, 0, 32, 0, 0), (32, 49, 35, 12, 0), (35, 1, 36, 2, 0), (36, 7, 37, 0, 0), (37, 14, 38, 0, 0), (38, 51, 39, 0, 0), (39, 46, 42, 62, 0), (42, 0, 43, 0, 0), (43, 0, 44, 0, 0), (44, 49, 47, 12, 0), (47, 1, 48, 2, 0), (48, 7, 49, 1, 0), (49, 14, 50, 0, 0), (50, 1, 51, 3, 0), (51, 14, 52, 0, 0), (52, 51, 53, 0, 0), (53, 61, 56, 267, 210), (56, 6, 59, 3, 1), (59, 36, 62, 30, 0)]
theorem ve_X12_write_30 : zget kd_X12_write 30 = vb_X12_write_30.map vq ++ vrest kd_X12_write (some 62) := rfl
def vb_X12_write_62 : List VE := [(62, 0, 63, 0, 0), (63, 8, 65, 58, 0), (65, 61, 68, 267, 210), (68, 0, 69, 0, 0), (69, 0, 70, 0, 0), (70, 49, 73, 12, 0), (73, 1, 74, 2, 0), (74, 8, 76, 9, 0), (76, 14, 77, 0, 0), (77, 51, 78, 0, 0), (78, 61, 81, 268, 210), (81, 0, 82, 0, 0), (82, 8, 84, 42, 0), (84, 61, 87, 267, 210), (87, 0, 88, 0, 0), (88, 0, 89, 0, 0), (89, 49, 92, 12, 0), (92, 1, 93, 2, 0), (93, 8, 95, 10, 0), (95, 14, 96, 0, 0), (96, 51, 97, 0, 0), (97, 61, 100, 268, 210), (100, 0, 101, 0, 0), (101, 8, 103, 59, 0), (103, 61, 106, 267, 210), (106, 6, 109, 1, 1), (109, 36, 112, 7, 0)]
theorem ve_X12_write_62 : zget kd_X12_write 62 = vb_X12_write_62.map vq ++ vrest kd_X12_write (some 112) := rfl
def vb_X12_write_112 : List VE := [(112, 0, 113, 0, 0), (113, 49, 116, 12, 51), (116, 62, 117, 0, 0)]
theorem ve_X12_write_112 : zget kd_X12_write 112 = vb_X12_write_112.map vq ++ vrest kd_X12_write (none) := rfl
def vb_X12_octet_0 : List VE := [(0, 1, 1, 1, 0), (1, 7, 2, 0, 0), (2, 0, 3, 0, 0), (3, 49, 6, 12, 51), (6, 7, 7, 1, 0), (7, 15, 8, 0, 0), (8, 60, 11, 156, 3), (11, 37, 14, 23, 0), (14, 0, 15, 0, 0), (15, 49, 18, 12, 50), (18, 1, 19, 1, 0), (19, 57, 20, 0, 0), (20, 36, 23, 24, 0)]
theorem ve_X12_octet_0 : zget kd_X12_octet 0 = vb_X12_octet_0.map vq ++ vrest kd_X12_octet (some 23) := rfl
def vb_X12_octet_23 : List VE := [(23, 7, 24, 4294967295, 0)]
theorem ve_X12_octet_23 : zget kd_X12_octet 23 = vb_X12_octet_23.map vq ++ vrest kd_X12_octet (some 24) := rfl
def vb_X12_octet_24 : List VE := [(24, 62, 25, 0, 0)]
theorem ve_X12_octet_24 : zget kd_X12_octet 24 = vb_X12_octet_24.map vq ++ vrest kd_X12_octet (none) := rfl
theorem vm_X0_begin : zget zM 1 = some ((1, 0, false, cX0_begin, 5, none), kd_X0_begin) := rfl
theorem vm_X0_addRemark : zget zM 2 = some ((2, 0, false, cX0_addRemark, 3, none), kd_X0_addRemark) := rfl
theorem vm_X0_dueBales : zget zM 3 = some ((3, 0, false, cX0_dueBales, 3, (some .int)), kd_X0_dueBales) := rfl
theorem vm_X0_worthOf : zget zM 4 = some ((4, 0, false, cX0_worthOf, 6, (some .int)), kd_X0_worthOf) := rfl
theorem vm_X1_takeItems : zget zM 6 = some ((6, 1, false, cX1_takeItems, 6, (some .int)), kd_X1_takeItems) := rfl
theorem vm_X1_takeBill : zget zM 7 = some ((7, 1, false, cX1_takeBill, 7, (some .boolean)), kd_X1_takeBill) := rfl
theorem vm_X1_isTold : zget zM 8 = some ((8, 1, false, cX1_isTold, 4, (some .boolean)), kd_X1_isTold) := rfl
theorem vm_X1_takeCouple : zget zM 9 = some ((9, 1, false, cX1_takeCouple, 5, (some .boolean)), kd_X1_takeCouple) := rfl
theorem vm_X1_takeLine : zget zM 10 = some ((10, 1, false, cX1_takeLine, 8, (some .boolean)), kd_X1_takeLine) := rfl
theorem vm_X1_cutTo : zget zM 11 = some ((11, 1, false, cX1_cutTo, 5, none), kd_X1_cutTo) := rfl
theorem vm_X1_keepMeasured : zget zM 12 = some ((12, 1, false, cX1_keepMeasured, 3, none), kd_X1_keepMeasured) := rfl
theorem vm_X1_readBy : zget zM 16 = some ((16, 1, false, cX1_readBy, 6, (some .int)), kd_X1_readBy) := rfl
theorem vm_X1_readSeen : zget zM 17 = some ((17, 1, false, cX1_readSeen, 4, (some .int)), kd_X1_readSeen) := rfl
theorem vm_X1_cureFor : zget zM 18 = some ((18, 1, false, cX1_cureFor, 4, (some .int)), kd_X1_cureFor) := rfl
theorem vm_X1_isCure : zget zM 19 = some ((19, 1, false, cX1_isCure, 12, (some .boolean)), kd_X1_isCure) := rfl
theorem vm_X1_chargeEach : zget zM 20 = some ((20, 1, false, cX1_chargeEach, 1, (some .int)), kd_X1_chargeEach) := rfl
theorem vm_X1_balesIn : zget zM 21 = some ((21, 1, false, cX1_balesIn, 5, (some .int)), kd_X1_balesIn) := rfl
theorem vm_X1_linesIn : zget zM 22 = some ((22, 1, false, cX1_linesIn, 5, (some .int)), kd_X1_linesIn) := rfl
theorem vm_X1_marksIn : zget zM 23 = some ((23, 1, false, cX1_marksIn, 4, (some .int)), kd_X1_marksIn) := rfl
theorem vm_X1_firstSeen : zget zM 24 = some ((24, 1, false, cX1_firstSeen, 4, (some .boolean)), kd_X1_firstSeen) := rfl
theorem vm_X1_surplusIn : zget zM 25 = some ((25, 1, false, cX1_surplusIn, 2, (some .int)), kd_X1_surplusIn) := rfl
theorem vm_X1_isIn : zget zM 26 = some ((26, 1, false, cX1_isIn, 4, (some .boolean)), kd_X1_isIn) := rfl
theorem vm_X1_setAgainst : zget zM 27 = some ((27, 1, false, cX1_setAgainst, 4, (some .int)), kd_X1_setAgainst) := rfl
theorem vm_X1_leavingOut : zget zM 28 = some ((28, 1, false, cX1_leavingOut, 1, (some .int)), kd_X1_leavingOut) := rfl
theorem vm_X1_setAgainstShore : zget zM 29 = some ((29, 1, false, cX1_setAgainstShore, 8, none), kd_X1_setAgainstShore) := rfl
theorem vm_X2_undo : zget zM 31 = some ((31, 2, false, cX2_undo, 2, none), kd_X2_undo) := rfl
theorem vm_X2_swapLaw : zget zM 32 = some ((32, 2, false, cX2_swapLaw, 3, none), kd_X2_swapLaw) := rfl
theorem vm_X3_refresh : zget zM 34 = some ((34, 3, false, cX3_refresh, 3, none), kd_X3_refresh) := rfl
theorem vm_X3_begin : zget zM 35 = some ((35, 3, false, cX3_begin, 3, none), kd_X3_begin) := rfl
theorem vm_X3_reaches : zget zM 36 = some ((36, 3, false, cX3_reaches, 3, (some .boolean)), kd_X3_reaches) := rfl
theorem vm_X3_cheapestEnd : zget zM 37 = some ((37, 3, false, cX3_cheapestEnd, 4, (some .int)), kd_X3_cheapestEnd) := rfl
theorem vm_X3_goStraight : zget zM 38 = some ((38, 3, false, cX3_goStraight, 3, none), kd_X3_goStraight) := rfl
theorem vm_X3_goRound : zget zM 39 = some ((39, 3, false, cX3_goRound, 4, (some .boolean)), kd_X3_goRound) := rfl
theorem vm_X3_turn : zget zM 40 = some ((40, 3, false, cX3_turn, 6, (some .boolean)), kd_X3_turn) := rfl
theorem vm_X3_bringTo : zget zM 41 = some ((41, 3, false, cX3_bringTo, 6, none), kd_X3_bringTo) := rfl
theorem vm_X3_mostTo : zget zM 42 = some ((42, 3, false, cX3_mostTo, 6, (some .int)), kd_X3_mostTo) := rfl
theorem vm_X4_takeFrom : zget zM 44 = some ((44, 4, false, cX4_takeFrom, 2, (some .int)), kd_X4_takeFrom) := rfl
theorem vm_X4_takeSum : zget zM 45 = some ((45, 4, false, cX4_takeSum, 6, (some .boolean)), kd_X4_takeSum) := rfl
theorem vm_X4_takeProduct : zget zM 46 = some ((46, 4, false, cX4_takeProduct, 6, (some .boolean)), kd_X4_takeProduct) := rfl
theorem vm_X4_takeThing : zget zM 47 = some ((47, 4, false, cX4_takeThing, 4, (some .boolean)), kd_X4_takeThing) := rfl
theorem vm_X4_isSumSign : zget zM 48 = some ((48, 4, false, cX4_isSumSign, 1, (some .boolean)), kd_X4_isSumSign) := rfl
theorem vm_X4_isProductSign : zget zM 49 = some ((49, 4, false, cX4_isProductSign, 1, (some .boolean)), kd_X4_isProductSign) := rfl
theorem vm_X4_add : zget zM 50 = some ((50, 4, false, cX4_add, 2, none), kd_X4_add) := rfl
theorem vm_X4_agree : zget zM 51 = some ((51, 4, false, cX4_agree, 8, (some .int)), kd_X4_agree) := rfl
theorem vm_X4_valueOf : zget zM 52 = some ((52, 4, false, cX4_valueOf, 4, (some .int)), kd_X4_valueOf) := rfl
theorem vm_X4_join : zget zM 53 = some ((53, 4, false, cX4_join, 3, (some .int)), kd_X4_join) := rfl
theorem vm_X5_couldMend : zget zM 55 = some ((55, 5, false, cX5_couldMend, 2, (some .boolean)), kd_X5_couldMend) := rfl
theorem vm_X6_refresh : zget zM 57 = some ((57, 6, false, cX6_refresh, 3, none), kd_X6_refresh) := rfl
theorem vm_X6_weighBills : zget zM 58 = some ((58, 6, false, cX6_weighBills, 4, none), kd_X6_weighBills) := rfl
theorem vm_X6_measure : zget zM 59 = some ((59, 6, false, cX6_measure, 3, none), kd_X6_measure) := rfl
theorem vm_X6_moveFrom : zget zM 60 = some ((60, 6, false, cX6_moveFrom, 5, none), kd_X6_moveFrom) := rfl
theorem vm_X6_broughtTo : zget zM 61 = some ((61, 6, false, cX6_broughtTo, 2, (some .int)), kd_X6_broughtTo) := rfl
theorem vm_X7_gather : zget zM 63 = some ((63, 7, false, cX7_gather, 4, (some .boolean)), kd_X7_gather) := rfl
theorem vm_X7_isNearest : zget zM 64 = some ((64, 7, false, cX7_isNearest, 5, (some .boolean)), kd_X7_isNearest) := rfl
theorem vm_X7_weigh : zget zM 65 = some ((65, 7, false, cX7_weigh, 7, none), kd_X7_weigh) := rfl
theorem vm_X7_balesOf : zget zM 66 = some ((66, 7, false, cX7_balesOf, 6, (some .int)), kd_X7_balesOf) := rfl
theorem vm_X7_leastInAll : zget zM 67 = some ((67, 7, false, cX7_leastInAll, 4, (some .int)), kd_X7_leastInAll) := rfl
theorem vm_X7_leastWith : zget zM 68 = some ((68, 7, false, cX7_leastWith, 6, (some .int)), kd_X7_leastWith) := rfl
theorem vm_X7_billFor : zget zM 69 = some ((69, 7, false, cX7_billFor, 5, (some .int)), kd_X7_billFor) := rfl
theorem vm_X7_fixFirst : zget zM 70 = some ((70, 7, false, cX7_fixFirst, 4, (some .int)), kd_X7_fixFirst) := rfl
theorem vm_X7_allowOnly : zget zM 71 = some ((71, 7, false, cX7_allowOnly, 4, none), kd_X7_allowOnly) := rfl
theorem vm_X8_codeOf : zget zM 73 = some ((73, 8, false, cX8_codeOf, 1, (some .int)), kd_X8_codeOf) := rfl
theorem vm_X8_octetOf : zget zM 74 = some ((74, 8, false, cX8_octetOf, 1, (some .int)), kd_X8_octetOf) := rfl
theorem vm_X8_append : zget zM 75 = some ((75, 8, false, cX8_append, 4, (some .long)), kd_X8_append) := rfl
theorem vm_X8_sizeOf : zget zM 76 = some ((76, 8, false, cX8_sizeOf, 2, (some .int)), kd_X8_sizeOf) := rfl
theorem vm_X8_signAt : zget zM 77 = some ((77, 8, false, cX8_signAt, 3, (some .int)), kd_X8_signAt) := rfl
theorem vm_X8_has : zget zM 78 = some ((78, 8, false, cX8_has, 4, (some .boolean)), kd_X8_has) := rfl
theorem vm_X8_wearAt : zget zM 79 = some ((79, 8, false, cX8_wearAt, 3, (some .long)), kd_X8_wearAt) := rfl
theorem vm_X8_octetAt : zget zM 80 = some ((80, 8, false, cX8_octetAt, 3, (some .int)), kd_X8_octetAt) := rfl
theorem vm_X8_areLike : zget zM 81 = some ((81, 8, false, cX8_areLike, 3, (some .boolean)), kd_X8_areLike) := rfl
theorem vm_X8_setCost : zget zM 82 = some ((82, 8, false, cX8_setCost, 4, none), kd_X8_setCost) := rfl
theorem vm_X8_addCouple : zget zM 83 = some ((83, 8, false, cX8_addCouple, 3, none), kd_X8_addCouple) := rfl
theorem vm_X8_cutCouples : zget zM 84 = some ((84, 8, false, cX8_cutCouples, 3, none), kd_X8_cutCouples) := rfl
theorem vm_X8_gap : zget zM 85 = some ((85, 8, false, cX8_gap, 13, (some .int)), kd_X8_gap) := rfl
theorem vm_X9_refresh : zget zM 87 = some ((87, 9, false, cX9_refresh, 3, none), kd_X9_refresh) := rfl
theorem vm_X9_count : zget zM 88 = some ((88, 9, false, cX9_count, 5, none), kd_X9_count) := rfl
theorem vm_X9_heapOf : zget zM 89 = some ((89, 9, false, cX9_heapOf, 5, (some .int)), kd_X9_heapOf) := rfl
theorem vm_X9_linesThatAre : zget zM 90 = some ((90, 9, false, cX9_linesThatAre, 4, (some .int)), kd_X9_linesThatAre) := rfl
theorem vm_X9_unreadIn : zget zM 91 = some ((91, 9, false, cX9_unreadIn, 4, (some .int)), kd_X9_unreadIn) := rfl
theorem vm_X10_add : zget zM 93 = some ((93, 10, false, cX10_add, 3, none), kd_X10_add) := rfl
theorem vm_X10_rewind : zget zM 94 = some ((94, 10, false, cX10_rewind, 1, none), kd_X10_rewind) := rfl
theorem vm_X10_next : zget zM 95 = some ((95, 10, false, cX10_next, 1, (some .int)), kd_X10_next) := rfl
theorem vm_X10_fail : zget zM 96 = some ((96, 10, false, cX10_fail, 2, (some .boolean)), kd_X10_fail) := rfl
theorem vm_X10_skip : zget zM 97 = some ((97, 10, false, cX10_skip, 2, (some .boolean)), kd_X10_skip) := rfl
theorem vm_X10_isDigit : zget zM 98 = some ((98, 10, false, cX10_isDigit, 1, (some .boolean)), kd_X10_isDigit) := rfl
theorem vm_X10_digitUpTo : zget zM 99 = some ((99, 10, false, cX10_digitUpTo, 3, (some .int)), kd_X10_digitUpTo) := rfl
theorem vm_X10_digits : zget zM 100 = some ((100, 10, false, cX10_digits, 4, (some .int)), kd_X10_digits) := rfl
theorem vm_X10_amount : zget zM 101 = some ((101, 10, false, cX10_amount, 2, (some .int)), kd_X10_amount) := rfl
theorem vm_X10_sign : zget zM 102 = some ((102, 10, false, cX10_sign, 2, (some .int)), kd_X10_sign) := rfl
theorem vm_X10_signs : zget zM 103 = some ((103, 10, false, cX10_signs, 6, (some .long)), kd_X10_signs) := rfl
theorem vm_X11_feed : zget zM 105 = some ((105, 11, false, cX11_feed, 6, (some .int)), kd_X11_feed) := rfl
theorem vm_X11_end : zget zM 106 = some ((106, 11, false, cX11_end, 2, (some .int)), kd_X11_end) := rfl
theorem vm_X11_text : zget zM 107 = some ((107, 11, false, cX11_text, 5, (some .int)), kd_X11_text) := rfl
theorem vm_X11_law : zget zM 108 = some ((108, 11, false, cX11_law, 4, (some .int)), kd_X11_law) := rfl
theorem vm_X11_fault : zget zM 109 = some ((109, 11, false, cX11_fault, 1, (some .int)), kd_X11_fault) := rfl
theorem vm_X11_is : zget zM 110 = some ((110, 11, false, cX11_is, 2, (some .int)), kd_X11_is) := rfl
theorem vm_X11_bill : zget zM 111 = some ((111, 11, false, cX11_bill, 4, (some .int)), kd_X11_bill) := rfl
theorem vm_X11_line : zget zM 112 = some ((112, 11, false, cX11_line, 4, (some .int)), kd_X11_line) := rfl
theorem vm_X11_apart : zget zM 113 = some ((113, 11, false, cX11_apart, 3, (some .int)), kd_X11_apart) := rfl
theorem vm_X11_read : zget zM 114 = some ((114, 11, false, cX11_read, 2, (some .int)), kd_X11_read) := rfl
theorem vm_X11_least : zget zM 115 = some ((115, 11, false, cX11_least, 4, (some .int)), kd_X11_least) := rfl
theorem vm_X11_heap : zget zM 116 = some ((116, 11, false, cX11_heap, 4, (some .int)), kd_X11_heap) := rfl
theorem vm_X11_tally : zget zM 117 = some ((117, 11, false, cX11_tally, 3, (some .int)), kd_X11_tally) := rfl
theorem vm_X11_brought : zget zM 118 = some ((118, 11, false, cX11_brought, 4, (some .int)), kd_X11_brought) := rfl
theorem vm_X11_matched : zget zM 119 = some ((119, 11, false, cX11_matched, 2, (some .int)), kd_X11_matched) := rfl
theorem vm_X11_best : zget zM 120 = some ((120, 11, false, cX11_best, 2, (some .int)), kd_X11_best) := rfl
theorem vm_X11_remark : zget zM 121 = some ((121, 11, false, cX11_remark, 5, (some .int)), kd_X11_remark) := rfl
theorem vm_X11_remarked : zget zM 122 = some ((122, 11, false, cX11_remarked, 5, (some .int)), kd_X11_remarked) := rfl
theorem vm_X11_claim : zget zM 123 = some ((123, 11, false, cX11_claim, 5, (some .int)), kd_X11_claim) := rfl
theorem vm_X11_limit : zget zM 124 = some ((124, 11, false, cX11_limit, 3, (some .int)), kd_X11_limit) := rfl
theorem vm_X11_far : zget zM 125 = some ((125, 11, false, cX11_far, 3, (some .int)), kd_X11_far) := rfl
theorem vm_X11_pack : zget zM 126 = some ((126, 11, false, cX11_pack, 3, (some .int)), kd_X11_pack) := rfl
theorem vm_X11_paid : zget zM 127 = some ((127, 11, false, cX11_paid, 4, (some .int)), kd_X11_paid) := rfl
theorem vm_X11_against : zget zM 128 = some ((128, 11, false, cX11_against, 3, (some .int)), kd_X11_against) := rfl
theorem vm_X11_hold : zget zM 129 = some ((129, 11, false, cX11_hold, 3, (some .int)), kd_X11_hold) := rfl
theorem vm_X11_close : zget zM 130 = some ((130, 11, false, cX11_close, 2, (some .int)), kd_X11_close) := rfl
theorem vm_X11_blame : zget zM 131 = some ((131, 11, false, cX11_blame, 7, (some .int)), kd_X11_blame) := rfl
theorem vm_X11_worn : zget zM 132 = some ((132, 11, false, cX11_worn, 8, (some .int)), kd_X11_worn) := rfl
theorem vm_X11_twin : zget zM 133 = some ((133, 11, false, cX11_twin, 7, (some .int)), kd_X11_twin) := rfl
theorem vm_X11_shed : zget zM 134 = some ((134, 11, false, cX11_shed, 2, (some .int)), kd_X11_shed) := rfl
theorem vm_X11_days : zget zM 135 = some ((135, 11, false, cX11_days, 2, (some .int)), kd_X11_days) := rfl
theorem vm_X11_rate : zget zM 136 = some ((136, 11, false, cX11_rate, 3, (some .int)), kd_X11_rate) := rfl
theorem vm_X11_deliver : zget zM 137 = some ((137, 11, false, cX11_deliver, 4, (some .int)), kd_X11_deliver) := rfl
theorem vm_X11_gone : zget zM 138 = some ((138, 11, false, cX11_gone, 2, (some .int)), kd_X11_gone) := rfl
theorem vm_X11_settled : zget zM 139 = some ((139, 11, false, cX11_settled, 2, (some .int)), kd_X11_settled) := rfl
theorem vm_X11_cure : zget zM 140 = some ((140, 11, false, cX11_cure, 7, (some .int)), kd_X11_cure) := rfl
theorem vm_X11_strike : zget zM 141 = some ((141, 11, false, cX11_strike, 3, (some .int)), kd_X11_strike) := rfl
theorem vm_X11_back : zget zM 142 = some ((142, 11, false, cX11_back, 1, (some .int)), kd_X11_back) := rfl
theorem vm_X11_write : zget zM 143 = some ((143, 11, false, cX11_write, 4, (some .int)), kd_X11_write) := rfl
theorem vm_X11_octet : zget zM 144 = some ((144, 11, false, cX11_octet, 2, (some .int)), kd_X11_octet) := rfl
theorem vm_X11_within : zget zM 145 = some ((145, 11, false, cX11_within, 3, (some .boolean)), kd_X11_within) := rfl
theorem vm_X11_isBill : zget zM 146 = some ((146, 11, false, cX11_isBill, 2, (some .boolean)), kd_X11_isBill) := rfl
theorem vm_X11_isLine : zget zM 147 = some ((147, 11, false, cX11_isLine, 2, (some .boolean)), kd_X11_isLine) := rfl
theorem vm_X11_isHold : zget zM 148 = some ((148, 11, false, cX11_isHold, 1, (some .boolean)), kd_X11_isHold) := rfl
theorem vm_X11_put : zget zM 149 = some ((149, 11, false, cX11_put, 2, none), kd_X11_put) := rfl
theorem vm_X11_putNumber : zget zM 150 = some ((150, 11, false, cX11_putNumber, 5, none), kd_X11_putNumber) := rfl
theorem vm_X11_matchAll : zget zM 151 = some ((151, 11, false, cX11_matchAll, 1, none), kd_X11_matchAll) := rfl
theorem vm_X11_paidFor : zget zM 152 = some ((152, 11, false, cX11_paidFor, 3, (some .int)), kd_X11_paidFor) := rfl
theorem vm_X11_balesInShed : zget zM 153 = some ((153, 11, false, cX11_balesInShed, 4, (some .int)), kd_X11_balesInShed) := rfl
theorem vm_X11_forgetAnswers : zget zM 155 = some ((155, 11, false, cX11_forgetAnswers, 1, none), kd_X11_forgetAnswers) := rfl
theorem vm_X12_isIn : zget zM 156 = some ((156, 12, false, cX12_isIn, 3, (some .boolean)), kd_X12_isIn) := rfl
theorem vm_X12_deed : zget zM 158 = some ((158, 12, false, cX12_deed, 2, none), kd_X12_deed) := rfl
theorem vm_X12_back : zget zM 159 = some ((159, 12, false, cX12_back, 2, (some .int)), kd_X12_back) := rfl
theorem vm_X12_four : zget zM 160 = some ((160, 12, false, cX12_four, 3, none), kd_X12_four) := rfl
theorem vm_X12_feed : zget zM 161 = some ((161, 12, false, cX12_feed, 6, (some .int)), kd_X12_feed) := rfl
theorem vm_X12_end : zget zM 162 = some ((162, 12, false, cX12_end, 2, (some .int)), kd_X12_end) := rfl
theorem vm_X12_here : zget zM 163 = some ((163, 12, false, cX12_here, 1, (some .int)), kd_X12_here) := rfl
theorem vm_X12_isFigure : zget zM 164 = some ((164, 12, false, cX12_isFigure, 1, (some .boolean)), kd_X12_isFigure) := rfl
theorem vm_X12_isSign : zget zM 165 = some ((165, 12, false, cX12_isSign, 1, (some .boolean)), kd_X12_isSign) := rfl
theorem vm_X12_fails : zget zM 166 = some ((166, 12, false, cX12_fails, 2, (some .boolean)), kd_X12_fails) := rfl
theorem vm_X12_takes : zget zM 167 = some ((167, 12, false, cX12_takes, 2, (some .boolean)), kd_X12_takes) := rfl
theorem vm_X12_fault : zget zM 168 = some ((168, 12, false, cX12_fault, 1, (some .int)), kd_X12_fault) := rfl
theorem vm_X12_readDigits : zget zM 169 = some ((169, 12, false, cX12_readDigits, 3, (some .boolean)), kd_X12_readDigits) := rfl
theorem vm_X12_readCount : zget zM 170 = some ((170, 12, false, cX12_readCount, 2, (some .boolean)), kd_X12_readCount) := rfl
theorem vm_X12_readOne : zget zM 171 = some ((171, 12, false, cX12_readOne, 2, (some .boolean)), kd_X12_readOne) := rfl
theorem vm_X12_readMark : zget zM 172 = some ((172, 12, false, cX12_readMark, 5, (some .boolean)), kd_X12_readMark) := rfl
theorem vm_X12_isLike : zget zM 173 = some ((173, 12, false, cX12_isLike, 6, (some .boolean)), kd_X12_isLike) := rfl
theorem vm_X12_billAt : zget zM 174 = some ((174, 12, false, cX12_billAt, 1, (some .int)), kd_X12_billAt) := rfl
theorem vm_X12_lineAt : zget zM 175 = some ((175, 12, false, cX12_lineAt, 1, (some .int)), kd_X12_lineAt) := rfl
theorem vm_X12_isSame : zget zM 176 = some ((176, 12, false, cX12_isSame, 6, (some .boolean)), kd_X12_isSame) := rfl
theorem vm_X12_readBill : zget zM 177 = some ((177, 12, false, cX12_readBill, 6, (some .boolean)), kd_X12_readBill) := rfl
theorem vm_X12_readCouple : zget zM 178 = some ((178, 12, false, cX12_readCouple, 5, (some .boolean)), kd_X12_readCouple) := rfl
theorem vm_X12_readLine : zget zM 179 = some ((179, 12, false, cX12_readLine, 4, (some .boolean)), kd_X12_readLine) := rfl
theorem vm_X12_readText : zget zM 180 = some ((180, 12, false, cX12_readText, 3, (some .boolean)), kd_X12_readText) := rfl
theorem vm_X12_countItems : zget zM 181 = some ((181, 12, false, cX12_countItems, 1, (some .int)), kd_X12_countItems) := rfl
theorem vm_X12_text : zget zM 182 = some ((182, 12, false, cX12_text, 6, (some .int)), kd_X12_text) := rfl
theorem vm_X12_does : zget zM 183 = some ((183, 12, false, cX12_does, 2, none), kd_X12_does) := rfl
theorem vm_X12_nameOf : zget zM 184 = some ((184, 12, false, cX12_nameOf, 1, (some .int)), kd_X12_nameOf) := rfl
theorem vm_X12_readThing : zget zM 185 = some ((185, 12, false, cX12_readThing, 3, (some .int)), kd_X12_readThing) := rfl
theorem vm_X12_isProductSign : zget zM 186 = some ((186, 12, false, cX12_isProductSign, 1, (some .boolean)), kd_X12_isProductSign) := rfl
theorem vm_X12_goesOn : zget zM 187 = some ((187, 12, false, cX12_goesOn, 2, (some .boolean)), kd_X12_goesOn) := rfl
theorem vm_X12_readLaw : zget zM 188 = some ((188, 12, false, cX12_readLaw, 3, (some .boolean)), kd_X12_readLaw) := rfl
theorem vm_X12_law : zget zM 189 = some ((189, 12, false, cX12_law, 3, (some .int)), kd_X12_law) := rfl
theorem vm_X12_joined : zget zM 190 = some ((190, 12, false, cX12_joined, 3, (some .int)), kd_X12_joined) := rfl
theorem vm_X12_lesser : zget zM 191 = some ((191, 12, false, cX12_lesser, 2, (some .int)), kd_X12_lesser) := rfl
theorem vm_X12_most : zget zM 192 = some ((192, 12, false, cX12_most, 2, (some .int)), kd_X12_most) := rfl
theorem vm_X12_agree : zget zM 193 = some ((193, 12, false, cX12_agree, 7, (some .int)), kd_X12_agree) := rfl
theorem vm_X12_change : zget zM 194 = some ((194, 12, false, cX12_change, 3, (some .int)), kd_X12_change) := rfl
theorem vm_X12_apartOf : zget zM 195 = some ((195, 12, false, cX12_apartOf, 10, (some .int)), kd_X12_apartOf) := rfl
theorem vm_X12_lineApart : zget zM 196 = some ((196, 12, false, cX12_lineApart, 3, (some .int)), kd_X12_lineApart) := rfl
theorem vm_X12_billApart : zget zM 197 = some ((197, 12, false, cX12_billApart, 3, (some .int)), kd_X12_billApart) := rfl
theorem vm_X12_isBill : zget zM 198 = some ((198, 12, false, cX12_isBill, 2, (some .boolean)), kd_X12_isBill) := rfl
theorem vm_X12_isLine : zget zM 199 = some ((199, 12, false, cX12_isLine, 2, (some .boolean)), kd_X12_isLine) := rfl
theorem vm_X12_apart : zget zM 200 = some ((200, 12, false, cX12_apart, 3, (some .int)), kd_X12_apart) := rfl
theorem vm_X12_layNear : zget zM 201 = some ((201, 12, false, cX12_layNear, 5, none), kd_X12_layNear) := rfl
theorem vm_X12_readOf : zget zM 202 = some ((202, 12, false, cX12_readOf, 3, (some .int)), kd_X12_readOf) := rfl
theorem vm_X12_lineRead : zget zM 203 = some ((203, 12, false, cX12_lineRead, 2, (some .int)), kd_X12_lineRead) := rfl
theorem vm_X12_read : zget zM 204 = some ((204, 12, false, cX12_read, 2, (some .int)), kd_X12_read) := rfl
theorem vm_X12_least : zget zM 205 = some ((205, 12, false, cX12_least, 2, (some .int)), kd_X12_least) := rfl
theorem vm_X12_heapAt : zget zM 206 = some ((206, 12, false, cX12_heapAt, 5, (some .int)), kd_X12_heapAt) := rfl
theorem vm_X12_layReads : zget zM 207 = some ((207, 12, false, cX12_layReads, 3, none), kd_X12_layReads) := rfl
theorem vm_X12_due : zget zM 208 = some ((208, 12, false, cX12_due, 5, (some .int)), kd_X12_due) := rfl
theorem vm_X12_countReads : zget zM 209 = some ((209, 12, false, cX12_countReads, 4, (some .int)), kd_X12_countReads) := rfl
theorem vm_X12_is : zget zM 210 = some ((210, 12, false, cX12_is, 2, (some .int)), kd_X12_is) := rfl
theorem vm_X12_bill : zget zM 211 = some ((211, 12, false, cX12_bill, 4, (some .int)), kd_X12_bill) := rfl
theorem vm_X12_line : zget zM 212 = some ((212, 12, false, cX12_line, 4, (some .int)), kd_X12_line) := rfl
theorem vm_X12_apartFrom : zget zM 213 = some ((213, 12, false, cX12_apartFrom, 4, (some .int)), kd_X12_apartFrom) := rfl
theorem vm_X12_isSource : zget zM 214 = some ((214, 12, false, cX12_isSource, 2, (some .boolean)), kd_X12_isSource) := rfl
theorem vm_X12_layShort : zget zM 215 = some ((215, 12, false, cX12_layShort, 4, none), kd_X12_layShort) := rfl
theorem vm_X12_layMatched : zget zM 216 = some ((216, 12, false, cX12_layMatched, 4, none), kd_X12_layMatched) := rfl
theorem vm_X12_matchedTo : zget zM 217 = some ((217, 12, false, cX12_matchedTo, 4, (some .int)), kd_X12_matchedTo) := rfl
theorem vm_X12_tally : zget zM 218 = some ((218, 12, false, cX12_tally, 3, (some .int)), kd_X12_tally) := rfl
theorem vm_X12_heap : zget zM 219 = some ((219, 12, false, cX12_heap, 4, (some .int)), kd_X12_heap) := rfl
theorem vm_X12_brought : zget zM 220 = some ((220, 12, false, cX12_brought, 3, (some .int)), kd_X12_brought) := rfl
theorem vm_X12_matched : zget zM 221 = some ((221, 12, false, cX12_matched, 2, (some .int)), kd_X12_matched) := rfl
theorem vm_X12_layWays : zget zM 222 = some ((222, 12, false, cX12_layWays, 5, none), kd_X12_layWays) := rfl
theorem vm_X12_goAlong : zget zM 223 = some ((223, 12, false, cX12_goAlong, 5, none), kd_X12_goAlong) := rfl
theorem vm_X12_layBest : zget zM 224 = some ((224, 12, false, cX12_layBest, 4, none), kd_X12_layBest) := rfl
theorem vm_X12_best : zget zM 225 = some ((225, 12, false, cX12_best, 2, (some .int)), kd_X12_best) := rfl
theorem vm_X12_remark : zget zM 226 = some ((226, 12, false, cX12_remark, 6, (some .int)), kd_X12_remark) := rfl
theorem vm_X12_remarked : zget zM 227 = some ((227, 12, false, cX12_remarked, 4, (some .int)), kd_X12_remarked) := rfl
theorem vm_X12_become : zget zM 228 = some ((228, 12, false, cX12_become, 4, (some .int)), kd_X12_become) := rfl
theorem vm_X12_claim : zget zM 229 = some ((229, 12, false, cX12_claim, 3, (some .int)), kd_X12_claim) := rfl
theorem vm_X12_limit : zget zM 230 = some ((230, 12, false, cX12_limit, 2, (some .int)), kd_X12_limit) := rfl
theorem vm_X12_far : zget zM 231 = some ((231, 12, false, cX12_far, 2, (some .int)), kd_X12_far) := rfl
theorem vm_X12_pack : zget zM 232 = some ((232, 12, false, cX12_pack, 2, (some .int)), kd_X12_pack) := rfl
theorem vm_X12_paidFor : zget zM 233 = some ((233, 12, false, cX12_paidFor, 9, (some .int)), kd_X12_paidFor) := rfl
theorem vm_X12_paid : zget zM 234 = some ((234, 12, false, cX12_paid, 4, (some .int)), kd_X12_paid) := rfl
theorem vm_X12_layHold : zget zM 235 = some ((235, 12, false, cX12_layHold, 3, none), kd_X12_layHold) := rfl
theorem vm_X12_bearing : zget zM 236 = some ((236, 12, false, cX12_bearing, 2, (some .int)), kd_X12_bearing) := rfl
theorem vm_X12_standing : zget zM 237 = some ((237, 12, false, cX12_standing, 4, (some .int)), kd_X12_standing) := rfl
theorem vm_X12_offers : zget zM 238 = some ((238, 12, false, cX12_offers, 3, none), kd_X12_offers) := rfl
theorem vm_X12_layAgainst : zget zM 239 = some ((239, 12, false, cX12_layAgainst, 6, none), kd_X12_layAgainst) := rfl
theorem vm_X12_isHold : zget zM 240 = some ((240, 12, false, cX12_isHold, 1, (some .boolean)), kd_X12_isHold) := rfl
theorem vm_X12_against : zget zM 241 = some ((241, 12, false, cX12_against, 3, (some .int)), kd_X12_against) := rfl
theorem vm_X12_difference : zget zM 242 = some ((242, 12, false, cX12_difference, 4, (some .int)), kd_X12_difference) := rfl
theorem vm_X12_isAgain : zget zM 243 = some ((243, 12, false, cX12_isAgain, 3, (some .boolean)), kd_X12_isAgain) := rfl
theorem vm_X12_hold : zget zM 244 = some ((244, 12, false, cX12_hold, 5, (some .int)), kd_X12_hold) := rfl
theorem vm_X12_close : zget zM 245 = some ((245, 12, false, cX12_close, 2, (some .int)), kd_X12_close) := rfl
theorem vm_X12_blame : zget zM 246 = some ((246, 12, false, cX12_blame, 8, (some .int)), kd_X12_blame) := rfl
theorem vm_X12_worn : zget zM 247 = some ((247, 12, false, cX12_worn, 8, (some .int)), kd_X12_worn) := rfl
theorem vm_X12_readSpare : zget zM 248 = some ((248, 12, false, cX12_readSpare, 8, (some .int)), kd_X12_readSpare) := rfl
theorem vm_X12_spareApart : zget zM 249 = some ((249, 12, false, cX12_spareApart, 10, (some .int)), kd_X12_spareApart) := rfl
theorem vm_X12_twin : zget zM 250 = some ((250, 12, false, cX12_twin, 7, (some .int)), kd_X12_twin) := rfl
theorem vm_X12_shedOf : zget zM 251 = some ((251, 12, false, cX12_shedOf, 2, (some .int)), kd_X12_shedOf) := rfl
theorem vm_X12_shed : zget zM 252 = some ((252, 12, false, cX12_shed, 2, (some .int)), kd_X12_shed) := rfl
theorem vm_X12_days : zget zM 253 = some ((253, 12, false, cX12_days, 3, (some .int)), kd_X12_days) := rfl
theorem vm_X12_charge : zget zM 254 = some ((254, 12, false, cX12_charge, 1, (some .int)), kd_X12_charge) := rfl
theorem vm_X12_rate : zget zM 255 = some ((255, 12, false, cX12_rate, 3, (some .int)), kd_X12_rate) := rfl
theorem vm_X12_deliver : zget zM 256 = some ((256, 12, false, cX12_deliver, 3, (some .int)), kd_X12_deliver) := rfl
theorem vm_X12_gone : zget zM 257 = some ((257, 12, false, cX12_gone, 2, (some .int)), kd_X12_gone) := rfl
theorem vm_X12_isNear : zget zM 258 = some ((258, 12, false, cX12_isNear, 3, (some .boolean)), kd_X12_isNear) := rfl
theorem vm_X12_comesTo : zget zM 259 = some ((259, 12, false, cX12_comesTo, 5, none), kd_X12_comesTo) := rfl
theorem vm_X12_offOf : zget zM 260 = some ((260, 12, false, cX12_offOf, 3, (some .int)), kd_X12_offOf) := rfl
theorem vm_X12_laySettled : zget zM 261 = some ((261, 12, false, cX12_laySettled, 5, (some .boolean)), kd_X12_laySettled) := rfl
theorem vm_X12_takes_ : zget zM 262 = some ((262, 12, false, cX12_takes_, 5, (some .int)), kd_X12_takes_) := rfl
theorem vm_X12_settled : zget zM 263 = some ((263, 12, false, cX12_settled, 3, (some .int)), kd_X12_settled) := rfl
theorem vm_X12_isCure : zget zM 264 = some ((264, 12, false, cX12_isCure, 6, (some .boolean)), kd_X12_isCure) := rfl
theorem vm_X12_cure : zget zM 265 = some ((265, 12, false, cX12_cure, 6, (some .int)), kd_X12_cure) := rfl
theorem vm_X12_strike : zget zM 266 = some ((266, 12, false, cX12_strike, 3, (some .int)), kd_X12_strike) := rfl
theorem vm_X12_writes : zget zM 267 = some ((267, 12, false, cX12_writes, 2, none), kd_X12_writes) := rfl
theorem vm_X12_writeNumber : zget zM 268 = some ((268, 12, false, cX12_writeNumber, 2, none), kd_X12_writeNumber) := rfl
theorem vm_X12_write : zget zM 269 = some ((269, 12, false, cX12_write, 4, (some .int)), kd_X12_write) := rfl
theorem vm_X12_octet : zget zM 270 = some ((270, 12, false, cX12_octet, 2, (some .int)), kd_X12_octet) := rfl
