/-! ===== the tables of links, each with its place among the words ===== -/
def zflX (oc : Nat) : List ((Nat × Nat × Nat × Bool × Nat) × Nat) := match oc with
  | 0 => [((9, 0, 6, true, 3), 212), ((15, 0, 7, true, 3), 214), ((18, 0, 0, false, 1), 193), ((22, 0, 1, false, 0), 197), ((26, 0, 2, false, 0), 201), ((29, 0, 3, false, 0), 203), ((32, 0, 4, false, 0), 206), ((35, 0, 5, false, 0), 209)]
  | 1 => [((12, 1, 0, true, 3), 270), ((20, 1, 1, true, 3), 273), ((26, 1, 3, true, 3), 285), ((33, 1, 5, false, 3), 293), ((37, 1, 6, false, 3), 298), ((40, 1, 7, false, 0), 300), ((44, 1, 8, false, 0), 304), ((47, 1, 9, false, 0), 309), ((50, 1, 11, false, 0), 315), ((53, 1, 12, false, 0), 318), ((56, 1, 14, true, 3), 323), ((60, 1, 15, true, 3), 324), ((63, 1, 16, true, 3), 325), ((68, 8, 3, false, 0), 146), ((76, 10, 2, false, 0), 372), ((79, 10, 1, false, 0), 371), ((104, 1, 2, false, 0), 281), ((125, 0, 0, false, 1), 194), ((140, 1, 4, false, 0), 292), ((146, 5, 0, false, 0), 241), ((149, 5, 1, false, 0), 244), ((152, 5, 2, false, 0), 249), ((155, 5, 3, false, 1), 252), ((158, 5, 4, false, 0), 254), ((170, 5, 5, true, 3), 256), ((197, 1, 10, false, 0), 314)]
  | 2 => [((10, 2, 4, false, 3), 579), ((19, 2, 5, false, 3), 581), ((23, 2, 0, false, 0), 571), ((27, 2, 1, false, 0), 573), ((30, 2, 2, false, 0), 575), ((33, 2, 3, false, 0), 577), ((46, 1, 1, true, 3), 274), ((50, 0, 5, false, 0), 210), ((55, 0, 3, false, 0), 204), ((58, 1, 7, false, 0), 301), ((61, 1, 8, false, 0), 306), ((64, 1, 9, false, 0), 310), ((71, 1, 10, false, 0), 312), ((74, 1, 11, false, 0), 316), ((77, 1, 12, false, 0), 319), ((80, 0, 4, false, 0), 207), ((83, 1, 13, false, 0), 321), ((86, 1, 5, false, 3), 295)]
  | 3 => [((9, 3, 3, true, 3), 498), ((15, 3, 4, true, 3), 499), ((20, 3, 5, true, 3), 500), ((23, 3, 6, true, 3), 501), ((26, 3, 7, true, 3), 502), ((29, 3, 8, true, 3), 503), ((32, 3, 0, true, 3), 494), ((36, 3, 1, true, 3), 495), ((40, 3, 2, false, 2), 496), ((55, 3, 9, false, 0), 504), ((59, 3, 10, false, 0), 506), ((62, 6, 4, true, 3), 445), ((67, 6, 6, false, 0), 450), ((70, 6, 3, true, 3), 442), ((73, 6, 5, true, 3), 448), ((76, 1, 8, false, 0), 307), ((88, 1, 2, false, 0), 284)]
  | 4 => [((11, 4, 0, true, 3), 175), ((15, 4, 1, true, 3), 176), ((18, 4, 2, false, 0), 177), ((22, 4, 3, false, 0), 178), ((30, 10, 1, false, 0), 370), ((35, 10, 2, false, 0), 373)]
  | 5 => [((9, 5, 5, true, 3), 255), ((15, 5, 0, false, 0), 238), ((19, 5, 2, false, 0), 246)]
  | 6 => [((9, 6, 3, true, 3), 441), ((15, 6, 4, true, 3), 444), ((20, 6, 5, true, 3), 447), ((23, 6, 7, true, 3), 452), ((26, 6, 8, true, 3), 454), ((29, 6, 9, true, 3), 456), ((32, 6, 0, true, 3), 437), ((36, 6, 1, true, 3), 438), ((40, 6, 2, false, 2), 439), ((44, 9, 4, false, 0), 402), ((50, 6, 6, false, 0), 449), ((53, 6, 10, false, 0), 458), ((56, 6, 11, false, 0), 460), ((62, 9, 7, true, 3), 411), ((69, 1, 8, false, 0), 305), ((78, 1, 2, false, 0), 282), ((81, 1, 1, true, 3), 276), ((97, 1, 0, true, 3), 272), ((101, 0, 0, false, 1), 195), ((111, 9, 3, true, 3), 399)]
  | 7 => [((9, 7, 2, true, 3), 540), ((15, 7, 4, true, 3), 542), ((20, 7, 5, true, 3), 543), ((23, 7, 6, true, 3), 544), ((26, 7, 0, true, 3), 538), ((30, 7, 1, true, 3), 539), ((44, 7, 3, false, 0), 541), ((48, 1, 4, false, 0), 289), ((53, 9, 2, true, 3), 396), ((56, 1, 2, false, 0), 280), ((71, 1, 1, true, 3), 277), ((81, 9, 5, true, 3), 405), ((90, 9, 6, true, 3), 408), ((93, 1, 5, false, 3), 296), ((97, 0, 1, false, 0), 199), ((109, 1, 3, true, 3), 287), ((113, 5, 0, false, 0), 240), ((116, 5, 2, false, 0), 248)]
  | 8 => [((13, 8, 0, true, 3), 143), ((16, 8, 1, true, 3), 144), ((20, 8, 2, true, 3), 145), ((23, 8, 4, true, 3), 149), ((26, 8, 5, true, 3), 150), ((47, 8, 3, false, 0), 148)]
  | 9 => [((9, 9, 2, true, 3), 395), ((15, 9, 3, true, 3), 398), ((18, 9, 5, true, 3), 404), ((21, 9, 6, true, 3), 407), ((24, 9, 7, true, 3), 410), ((27, 9, 0, true, 3), 392), ((31, 9, 1, false, 2), 393), ((35, 9, 4, false, 0), 401), ((39, 1, 4, false, 0), 290), ((48, 1, 2, false, 0), 279), ((51, 1, 1, true, 3), 275), ((55, 0, 1, false, 0), 198), ((59, 1, 5, false, 3), 294), ((69, 1, 3, true, 3), 286), ((77, 1, 7, false, 0), 302), ((88, 5, 0, false, 0), 239), ((93, 5, 2, false, 0), 247), ((96, 5, 3, false, 1), 251), ((106, 5, 1, false, 0), 243)]
  | 10 => [((9, 10, 0, true, 3), 367), ((15, 10, 3, false, 0), 375), ((19, 10, 1, false, 0), 369), ((22, 10, 2, false, 0), 374)]
  | 11 => [((12, 11, 0, true, 3), 596), ((19, 11, 1, true, 3), 597), ((28, 11, 2, true, 3), 598), ((37, 11, 3, true, 3), 599), ((46, 11, 4, true, 3), 600), ((53, 11, 5, true, 3), 601), ((59, 11, 6, true, 3), 602), ((64, 11, 9, true, 3), 605), ((68, 10, 1, false, 0), 368), ((80, 1, 2, false, 0), 283), ((83, 1, 4, false, 0), 291), ((86, 1, 0, true, 3), 271), ((90, 8, 3, false, 0), 147), ((107, 1, 6, false, 3), 299), ((116, 2, 4, false, 3), 580), ((119, 1, 5, false, 3), 297), ((120, 10, 3, false, 0), 376), ((126, 9, 4, false, 0), 403), ((129, 1, 7, false, 0), 303), ((132, 1, 8, false, 0), 308), ((135, 1, 9, false, 0), 311), ((138, 11, 7, false, 0), 603), ((145, 1, 10, false, 0), 313), ((148, 1, 13, false, 0), 322), ((155, 1, 1, true, 3), 278), ((159, 0, 1, false, 0), 200), ((164, 0, 2, false, 0), 202), ((167, 0, 0, false, 1), 196), ((175, 0, 5, false, 0), 211), ((178, 0, 3, false, 0), 205), ((188, 1, 3, true, 3), 288), ((192, 5, 0, false, 0), 242), ((197, 5, 1, false, 0), 245), ((200, 5, 2, false, 0), 250), ((203, 5, 3, false, 1), 253), ((210, 9, 2, true, 3), 397), ((220, 9, 3, true, 3), 400), ((223, 9, 5, true, 3), 406), ((226, 9, 6, true, 3), 409), ((229, 9, 7, true, 3), 412), ((232, 6, 7, true, 3), 453), ((239, 6, 4, true, 3), 446), ((242, 6, 3, true, 3), 443), ((245, 6, 8, true, 3), 455), ((251, 6, 6, false, 0), 451), ((254, 6, 9, true, 3), 457), ((258, 6, 10, false, 0), 459), ((261, 6, 11, false, 0), 461), ((265, 3, 9, false, 0), 505), ((266, 3, 10, false, 0), 507), ((271, 0, 6, true, 3), 213), ((274, 0, 7, true, 3), 215), ((325, 1, 11, false, 0), 317), ((328, 1, 12, false, 0), 320), ((334, 0, 4, false, 0), 208), ((356, 2, 5, false, 3), 582), ((364, 11, 8, false, 0), 604), ((373, 11, 10, false, 0), 606), ((389, 2, 0, false, 0), 572), ((392, 2, 1, false, 0), 574), ((395, 2, 2, false, 0), 576), ((398, 2, 3, false, 0), 578), ((401, 9, 1, false, 2), 394), ((405, 6, 2, false, 2), 440), ((406, 3, 2, false, 2), 497)]
  | 12 => [((7, 12, 0, true, 3), 1256), ((13, 12, 1, true, 3), 1257), ((16, 12, 3, true, 3), 1259), ((20, 12, 6, false, 0), 1262), ((24, 12, 8, true, 3), 1264), ((27, 12, 9, true, 3), 1265), ((30, 12, 12, true, 3), 1268), ((33, 12, 13, true, 3), 1269), ((36, 12, 15, true, 3), 1271), ((39, 12, 16, true, 3), 1272), ((42, 12, 20, true, 3), 1276), ((45, 12, 21, true, 3), 1277), ((48, 12, 22, true, 3), 1278), ((51, 12, 23, true, 3), 1279), ((54, 12, 24, true, 3), 1280), ((57, 12, 25, true, 3), 1281), ((60, 12, 27, true, 3), 1283), ((63, 12, 28, true, 3), 1284), ((66, 12, 29, true, 3), 1285), ((69, 12, 30, true, 3), 1286), ((72, 12, 33, true, 3), 1289), ((75, 12, 34, true, 3), 1290), ((78, 12, 35, true, 3), 1291), ((81, 12, 36, true, 3), 1292), ((84, 12, 37, true, 3), 1293), ((87, 12, 38, true, 3), 1294), ((90, 12, 43, true, 3), 1299), ((93, 12, 44, true, 3), 1300), ((96, 12, 45, true, 3), 1301), ((99, 12, 46, true, 3), 1302), ((102, 12, 49, true, 3), 1305), ((106, 12, 50, true, 3), 1306), ((109, 12, 2, false, 0), 1258), ((112, 12, 4, false, 0), 1260), ((123, 12, 5, false, 0), 1261), ((137, 12, 7, false, 0), 1263), ((193, 12, 10, false, 0), 1266), ((199, 12, 11, false, 0), 1267), ((202, 12, 14, false, 0), 1270), ((248, 12, 19, false, 0), 1275), ((251, 12, 17, false, 0), 1273), ((254, 12, 18, false, 0), 1274), ((267, 12, 26, false, 0), 1282), ((285, 12, 31, false, 0), 1287), ((288, 12, 32, false, 0), 1288), ((324, 12, 39, false, 0), 1295), ((327, 12, 40, false, 0), 1296), ((333, 12, 41, false, 0), 1297), ((336, 12, 42, false, 0), 1298), ((373, 12, 47, false, 0), 1303), ((382, 12, 48, false, 0), 1304), ((397, 12, 51, false, 0), 1307)]
  | _ => []
def znlX (oc : Nat) : List ((Nat × Nat) × Nat) := match oc with
  | 1 => [((9, 8), 135), ((30, 4), 169), ((18, 0), 165), ((24, 5), 167)]
  | 2 => [((7, 4), 567), ((16, 5), 569)]
  | 11 => [((9, 1), 129), ((16, 10), 361), ((23, 9), 386), ((32, 6), 430), ((41, 3), 487), ((50, 7), 531), ((57, 2), 560)]
  | 14 => [((7, 11), 121), ((10, 12), 1250)]
  | _ => []
def zalX (oc : Nat) : List ((Nat × Nat) × Nat × Nat) := match oc with
  | 1 => [((18, 20), 165, 166), ((24, 21), 167, 168)]
  | 11 => [((57, 22), 560, 561)]
  | _ => []
def zmmX (oc : Nat) : List (Nat × Nat) := match oc with
  | 3 => [(18, 493)]
  | 6 => [(18, 436)]
  | 7 => [(18, 537)]
  | 8 => [(11, 141)]
  | _ => []
def zkiX (oc : Nat) : List ((Nat × Nat) × Nat) := match oc with
  | 3 => [((91, 1000000), 963)]
  | 4 => [((86, 1000000), 850)]
  | 7 => [((119, 536870912), 1171)]
  | 11 => [((302, 4293967296), 1084)]
  | 12 => [((228, 1000000), 1607), ((360, 4293967296), 1762)]
  | _ => []
def zklX (oc : Nat) : List ((Nat × Nat) × Nat) := match oc with
  | 8 => [((37, 281474976710656), 684)]
  | _ => []
def zmlX (oc : Nat) : List ((Nat × Nat × Nat × Nat) × Option String × Nat × Nat × Nat × Nat) := match oc with
  | 0 => [((3, 2, 511, 1), none, 192, 127, 128, 0)]
  | 1 => [((3, 2, 511, 1), none, 134, 127, 128, 0), ((11, 2, 72, 1), none, 137, 109, 138, 0), ((32, 2, 43, 1), some "BaleTallies", 171, 110, 172, 0), ((66, 2, 0, 1), some "BaleTallies", 189, 111, 190, 0), ((67, 2, 54, 1), some "BaleTallies", 234, 112, 235, 0), ((71, 0, 94, 177), none, 653, 113, 654, 655), ((82, 0, 95, 177), none, 657, 113, 658, 659), ((86, 0, 7, 34), none, 661, 108, 663, 0), ((90, 0, 9, 34), none, 712, 108, 714, 2), ((93, 0, 10, 34), none, 732, 108, 734, 3), ((96, 0, 96, 178), none, 665, 113, 666, 667), ((100, 0, 12, 34), none, 741, 108, 743, 4), ((107, 0, 103, 178), none, 669, 113, 670, 671), ((110, 0, 8, 34), none, 686, 108, 688, 1), ((114, 0, 97, 178), none, 690, 113, 691, 692), ((117, 0, 101, 178), none, 694, 113, 695, 696), ((121, 0, 1, 20), none, 708, 111, 709, 710), ((129, 0, 102, 177), none, 716, 113, 717, 718), ((132, 0, 81, 147), none, 720, 109, 721, 722), ((136, 0, 83, 147), none, 724, 109, 725, 726), ((143, 0, 99, 178), none, 736, 113, 737, 738), ((161, 0, 84, 146), none, 750, 109, 751, 752), ((173, 0, 85, 147), none, 823, 109, 824, 825), ((177, 0, 16, 35), none, 1105, 108, 831, 832), ((181, 0, 19, 36), none, 1199, 108, 1201, 38), ((185, 0, 15, 34), none, 1203, 108, 820, 821), ((189, 1, 78, 2), none, 1204, 109, 1205, 0), ((193, 0, 82, 148), none, 1207, 109, 729, 730), ((203, 0, 26, 36), none, 1037, 108, 1039, 28), ((206, 0, 24, 35), none, 1067, 108, 1069, 30), ((209, 0, 21, 35), none, 1083, 108, 1056, 1057), ((212, 1, 28, 1), none, 1041, 108, 1042, 0), ((216, 0, 29, 35), none, 1044, 108, 1046, 29)]
  | 2 => [((1, 2, 511, 1), none, 566, 127, 128, 0), ((9, 2, 43, 1), some "BaleTallies", 568, 110, 172, 0), ((18, 2, 54, 1), some "BaleTallies", 570, 112, 235, 0), ((36, 0, 11, 36), none, 1225, 108, 747, 748), ((42, 0, 32, 50), none, 1226, 118, 1228, 39), ((67, 0, 14, 35), none, 1230, 108, 1231, 1232)]
  | 3 => [((3, 2, 511, 1), none, 492, 127, 128, 0), ((44, 0, 35, 65), none, 951, 116, 953, 19), ((47, 0, 37, 65), none, 955, 116, 957, 20), ((51, 0, 41, 66), none, 976, 116, 978, 25), ((81, 0, 38, 65), none, 959, 116, 961, 21), ((84, 0, 39, 65), none, 968, 116, 970, 23), ((92, 0, 36, 67), none, 964, 116, 966, 22), ((96, 0, 40, 67), none, 972, 116, 974, 24), ((99, 0, 42, 66), none, 980, 116, 982, 26)]
  | 4 => [((3, 2, 511, 1), none, 174, 127, 128, 0), ((25, 0, 94, 177), none, 775, 113, 654, 655), ((31, 0, 45, 83), none, 776, 110, 778, 7), ((38, 0, 96, 178), none, 788, 113, 666, 667), ((42, 0, 46, 83), none, 780, 110, 782, 8), ((45, 0, 95, 177), none, 789, 113, 658, 659), ((49, 1, 48, 1), none, 800, 110, 801, 0), ((52, 0, 50, 82), none, 793, 110, 795, 10), ((56, 0, 47, 83), none, 784, 110, 786, 9), ((59, 1, 49, 1), none, 797, 110, 798, 0), ((62, 0, 97, 178), none, 790, 113, 691, 692), ((65, 1, 98, 1), none, 791, 113, 699, 0), ((68, 0, 100, 178), none, 792, 113, 702, 703), ((78, 1, 53, 3), none, 843, 110, 844, 0), ((82, 1, 52, 4), none, 847, 110, 848, 0)]
  | 5 => [((3, 2, 511, 1), none, 237, 127, 128, 0), ((22, 1, 145, 3), some "BaleTallies", 1093, 107, 643, 0)]
  | 6 => [((3, 2, 511, 1), none, 435, 127, 128, 0), ((59, 0, 58, 113), none, 905, 115, 907, 16), ((65, 0, 59, 114), none, 915, 115, 917, 17), ((74, 0, 60, 115), none, 921, 115, 923, 18), ((85, 0, 3, 17), none, 909, 111, 910, 911), ((105, 0, 85, 147), none, 919, 109, 824, 825), ((114, 0, 15, 34), none, 920, 108, 820, 821)]
  | 7 => [((3, 2, 511, 1), none, 536, 127, 128, 0), ((34, 0, 90, 162), none, 1149, 114, 852, 853), ((40, 1, 145, 3), some "BaleTallies", 1150, 107, 643, 0), ((59, 0, 64, 131), none, 1151, 117, 1153, 32), ((63, 0, 65, 130), none, 1156, 117, 1158, 33), ((67, 0, 15, 34), none, 1155, 108, 820, 821), ((75, 0, 3, 17), none, 1160, 111, 910, 911), ((86, 0, 66, 131), none, 1161, 117, 1163, 34), ((98, 0, 51, 84), none, 1165, 110, 839, 840), ((120, 0, 68, 131), none, 1172, 117, 1174, 35), ((126, 0, 67, 129), none, 1181, 117, 1168, 1169), ((129, 0, 70, 131), none, 1182, 117, 1184, 36), ((132, 0, 71, 131), none, 1186, 117, 1188, 37)]
  | 8 => [((5, 2, 511, 1), none, 140, 127, 128, 0), ((29, 1, 145, 3), some "BaleTallies", 677, 107, 643, 0), ((33, 1, 76, 1), none, 681, 109, 682, 0), ((39, 1, 77, 2), none, 827, 109, 828, 0), ((43, 1, 74, 1), none, 868, 109, 869, 0), ((51, 0, 82, 148), none, 728, 109, 729, 730)]
  | 9 => [((3, 2, 511, 1), none, 391, 127, 128, 0), ((44, 0, 88, 162), none, 815, 114, 817, 11), ((63, 0, 51, 84), none, 838, 110, 839, 840), ((73, 0, 15, 34), none, 819, 108, 820, 821), ((80, 0, 16, 35), none, 830, 108, 831, 832), ((84, 0, 89, 162), none, 834, 114, 836, 12)]
  | 10 => [((3, 2, 511, 1), none, 366, 127, 128, 0), ((25, 0, 95, 177), none, 673, 113, 658, 659), ((29, 0, 96, 178), none, 685, 113, 666, 667), ((33, 1, 145, 3), some "BaleTallies", 740, 107, 643, 0), ((43, 1, 98, 1), none, 698, 113, 699, 0), ((46, 0, 100, 178), none, 701, 113, 702, 703), ((50, 1, 73, 1), none, 674, 109, 675, 0), ((55, 1, 75, 2), none, 678, 109, 679, 0)]
  | 11 => [((3, 2, 511, 1), none, 126, 127, 128, 0), ((11, 2, 5, 1), none, 131, 108, 132, 0), ((18, 2, 92, 1), some "BaleTallies", 363, 113, 364, 0), ((25, 2, 86, 2), none, 388, 114, 389, 0), ((34, 2, 56, 3), none, 432, 115, 433, 0), ((43, 2, 33, 3), none, 489, 116, 490, 0), ((52, 2, 62, 3), none, 533, 117, 534, 0), ((63, 2, 30, 1), some "BaleTallies", 563, 118, 564, 0), ((72, 0, 93, 178), none, 634, 113, 635, 636), ((76, 1, 145, 3), none, 642, 107, 643, 0), ((95, 0, 6, 34), none, 649, 108, 650, 651), ((99, 0, 11, 36), none, 746, 108, 747, 748), ((103, 0, 154, 197), none, 758, 107, 760, 5), ((111, 0, 44, 82), none, 771, 110, 772, 773), ((123, 0, 87, 161), none, 811, 114, 812, 813), ((141, 0, 90, 162), none, 851, 114, 852, 853), ((151, 0, 146, 194), none, 860, 107, 862, 13), ((171, 1, 76, 1), none, 864, 109, 682, 0), ((181, 1, 80, 2), none, 865, 109, 866, 0), ((185, 0, 147, 194), none, 875, 107, 877, 14), ((206, 0, 15, 34), none, 883, 108, 820, 821), ((213, 0, 16, 35), none, 892, 108, 831, 832), ((217, 0, 151, 193), none, 897, 107, 899, 15), ((235, 0, 3, 17), none, 930, 111, 910, 911), ((248, 0, 61, 114), none, 931, 115, 932, 933), ((264, 0, 34, 65), none, 947, 116, 948, 949), ((267, 0, 2, 19), none, 989, 111, 990, 991), ((277, 0, 152, 194), none, 1017, 107, 1019, 27), ((280, 1, 148, 1), none, 1030, 107, 1031, 0), ((283, 0, 27, 34), none, 1033, 108, 1034, 1035), ((286, 0, 21, 35), none, 1055, 108, 1056, 1057), ((290, 0, 22, 35), none, 1059, 108, 1060, 1061), ((293, 0, 23, 34), none, 1063, 108, 1064, 1065), ((296, 0, 91, 162), none, 1071, 114, 1072, 1073), ((299, 0, 25, 34), none, 1079, 108, 1080, 1081), ((303, 0, 55, 98), none, 1089, 112, 1090, 1091), ((306, 1, 79, 2), none, 1098, 109, 1099, 0), ((310, 0, 17, 34), none, 1101, 108, 1102, 1103), ((313, 0, 85, 147), none, 1110, 109, 824, 825), ((317, 0, 153, 194), none, 1115, 107, 1117, 31), ((331, 0, 20, 33), none, 1128, 108, 1129, 1130), ((337, 0, 63, 129), none, 1145, 117, 1146, 1147), ((341, 0, 67, 129), none, 1167, 117, 1168, 1169), ((344, 0, 69, 130), none, 1177, 117, 1178, 1179), ((347, 1, 77, 2), none, 1194, 109, 828, 0), ((350, 0, 18, 35), none, 1195, 108, 1196, 1197), ((353, 1, 74, 1), none, 1208, 109, 869, 0), ((360, 0, 13, 35), none, 1213, 108, 1214, 1215), ((367, 0, 31, 50), none, 1221, 118, 1222, 1223), ((370, 0, 155, 193), none, 763, 107, 765, 6), ((376, 0, 149, 194), none, 1238, 107, 1240, 40), ((379, 0, 150, 194), none, 1242, 107, 1244, 41), ((382, 0, 57, 113), none, 901, 115, 902, 903), ((383, 0, 4, 19), none, 1021, 111, 1022, 1023)]
  | 12 => [((1, 2, 511, 1), none, 1255, 127, 128, 0), ((115, 0, 160, 210), none, 1423, 119, 1425, 42), ((119, 1, 156, 3), none, 1431, 119, 1432, 0), ((126, 1, 164, 1), none, 1472, 119, 1473, 0), ((130, 0, 163, 209), none, 1450, 119, 1452, 45), ((134, 0, 166, 210), none, 1458, 119, 1460, 47), ((140, 0, 169, 210), none, 1487, 119, 1489, 52), ((143, 1, 165, 1), none, 1469, 119, 1470, 0), ((146, 1, 174, 1), none, 1462, 119, 1463, 0), ((150, 0, 172, 212), none, 1465, 119, 1467, 48), ((154, 0, 176, 213), none, 1475, 119, 1477, 49), ((158, 0, 167, 210), none, 1479, 119, 1481, 50), ((161, 0, 170, 210), none, 1483, 119, 1485, 51), ((164, 0, 173, 211), none, 1495, 119, 1497, 54), ((168, 1, 175, 1), none, 1503, 119, 1504, 0), ((171, 0, 171, 210), none, 1506, 119, 1508, 56), ((174, 0, 177, 210), none, 1454, 119, 1456, 46), ((177, 0, 178, 210), none, 1491, 119, 1493, 53), ((180, 0, 179, 210), none, 1499, 119, 1501, 55), ((183, 0, 181, 209), none, 1442, 119, 1444, 43), ((186, 0, 180, 209), none, 1446, 119, 1448, 44), ((190, 0, 158, 209), none, 1510, 119, 1512, 57), ((196, 1, 184, 1), none, 1526, 119, 1527, 0), ((205, 0, 183, 210), none, 1529, 119, 1531, 60), ((208, 0, 186, 209), none, 1537, 119, 1539, 62), ((211, 0, 185, 209), none, 1522, 119, 1524, 59), ((214, 0, 187, 209), none, 1533, 119, 1535, 61), ((217, 0, 188, 209), none, 1518, 119, 1520, 58), ((220, 1, 191, 2), none, 1565, 119, 1566, 0), ((224, 1, 190, 3), none, 1604, 119, 1605, 0), ((229, 1, 192, 2), none, 1608, 119, 1609, 0), ((232, 0, 194, 211), none, 1561, 119, 1563, 67), ((235, 0, 195, 213), none, 1557, 119, 1559, 66), ((239, 0, 199, 210), none, 1545, 119, 1547, 63), ((242, 0, 198, 210), none, 1549, 119, 1551, 64), ((245, 0, 196, 211), none, 1553, 119, 1555, 65), ((257, 0, 201, 211), none, 1580, 119, 1582, 70), ((261, 0, 202, 211), none, 1576, 119, 1578, 69), ((264, 0, 203, 210), none, 1572, 119, 1574, 68), ((270, 0, 206, 210), none, 1596, 119, 1598, 72), ((273, 0, 193, 212), none, 1600, 119, 1602, 73), ((276, 0, 207, 209), none, 1592, 119, 1594, 71), ((279, 0, 209, 210), none, 1611, 119, 1613, 74), ((282, 0, 197, 211), none, 1647, 119, 1649, 80), ((291, 0, 208, 210), none, 1635, 119, 1637, 77), ((294, 0, 214, 210), none, 1639, 119, 1641, 78), ((297, 0, 213, 211), none, 1643, 119, 1645, 79), ((300, 0, 215, 209), none, 1631, 119, 1633, 76), ((303, 0, 216, 209), none, 1627, 119, 1629, 75), ((306, 0, 217, 210), none, 1651, 119, 1653, 81), ((309, 0, 222, 209), none, 1675, 119, 1677, 83), ((312, 0, 223, 210), none, 1679, 119, 1681, 84), ((315, 0, 224, 209), none, 1671, 119, 1673, 82), ((318, 0, 228, 211), none, 1695, 119, 1697, 85), ((321, 0, 233, 210), none, 1715, 119, 1717, 86), ((330, 0, 236, 210), none, 1734, 119, 1736, 89), ((339, 0, 237, 211), none, 1738, 119, 1740, 90), ((342, 0, 238, 211), none, 1742, 119, 1744, 91), ((345, 1, 240, 1), none, 1723, 119, 1724, 0), ((348, 0, 235, 210), none, 1726, 119, 1728, 87), ((351, 0, 239, 209), none, 1730, 119, 1732, 88), ((354, 0, 243, 210), none, 1750, 119, 1752, 92), ((357, 0, 242, 210), none, 1758, 119, 1760, 93), ((361, 0, 248, 211), none, 1771, 119, 1773, 94), ((364, 0, 249, 212), none, 1775, 119, 1777, 95), ((367, 0, 251, 210), none, 1787, 119, 1789, 96), ((370, 0, 254, 209), none, 1799, 119, 1801, 97), ((376, 0, 260, 210), none, 1819, 119, 1821, 99), ((379, 0, 258, 211), none, 1823, 119, 1825, 100), ((385, 0, 262, 212), none, 1827, 119, 1829, 101), ((387, 0, 259, 212), none, 1831, 119, 1833, 102), ((391, 0, 261, 209), none, 1815, 119, 1817, 98), ((394, 0, 264, 212), none, 1839, 119, 1841, 103), ((400, 0, 267, 210), none, 1851, 119, 1853, 104), ((403, 0, 268, 210), none, 1855, 119, 1857, 105)]
  | 14 => [((9, 2, 104, 1), none, 123, 107, 124, 0), ((12, 2, 157, 1), none, 1252, 119, 1253, 0), ((13, 0, 105, 198), none, 630, 107, 631, 632), ((17, 0, 161, 214), none, 1419, 119, 1420, 1421), ((18, 0, 106, 194), none, 638, 107, 639, 640), ((22, 0, 162, 210), none, 1427, 119, 1428, 1429), ((23, 0, 107, 193), none, 645, 107, 646, 647), ((27, 0, 182, 209), none, 1438, 119, 1439, 1440), ((28, 0, 108, 193), none, 767, 107, 768, 769), ((31, 0, 189, 209), none, 1514, 119, 1515, 1516), ((32, 0, 109, 193), none, 803, 107, 804, 805), ((35, 0, 168, 209), none, 1434, 119, 1435, 1436), ((36, 0, 110, 194), none, 807, 107, 808, 809), ((39, 0, 210, 210), none, 1588, 119, 1589, 1590), ((40, 0, 111, 195), none, 856, 107, 857, 858), ((44, 0, 211, 211), none, 1615, 119, 1616, 1617), ((45, 0, 112, 195), none, 871, 107, 872, 873), ((48, 0, 212, 211), none, 1619, 119, 1620, 1621), ((49, 0, 113, 195), none, 879, 107, 880, 881), ((52, 0, 200, 211), none, 1541, 119, 1542, 1543), ((53, 0, 114, 194), none, 884, 107, 885, 886), ((56, 0, 204, 210), none, 1568, 119, 1569, 1570), ((57, 0, 115, 194), none, 888, 107, 889, 890), ((60, 0, 205, 210), none, 1584, 119, 1585, 1586), ((61, 0, 116, 195), none, 893, 107, 894, 895), ((64, 0, 219, 211), none, 1655, 119, 1656, 1657), ((65, 0, 117, 195), none, 926, 107, 927, 928), ((68, 0, 218, 211), none, 1623, 119, 1624, 1625), ((69, 0, 118, 195), none, 935, 107, 936, 937), ((72, 0, 220, 211), none, 1659, 119, 1660, 1661), ((73, 0, 119, 194), none, 939, 107, 940, 941), ((76, 0, 221, 210), none, 1663, 119, 1664, 1665), ((77, 0, 120, 194), none, 943, 107, 944, 945), ((80, 0, 225, 210), none, 1667, 119, 1668, 1669), ((81, 0, 121, 196), none, 985, 107, 986, 987), ((85, 0, 226, 212), none, 1683, 119, 1684, 1685), ((86, 0, 122, 196), none, 993, 107, 994, 995), ((89, 0, 227, 212), none, 1687, 119, 1688, 1689), ((90, 0, 123, 195), none, 997, 107, 998, 999), ((93, 0, 229, 211), none, 1691, 119, 1692, 1693), ((94, 0, 124, 194), none, 1001, 107, 1002, 1003), ((97, 0, 230, 210), none, 1699, 119, 1700, 1701), ((98, 0, 125, 194), none, 1005, 107, 1006, 1007), ((101, 0, 231, 210), none, 1703, 119, 1704, 1705), ((102, 0, 126, 194), none, 1009, 107, 1010, 1011), ((105, 0, 232, 210), none, 1707, 119, 1708, 1709), ((106, 0, 127, 194), none, 1013, 107, 1014, 1015), ((109, 0, 234, 210), none, 1711, 119, 1712, 1713), ((110, 0, 128, 195), none, 1026, 107, 1027, 1028), ((113, 0, 241, 211), none, 1719, 119, 1720, 1721), ((114, 0, 129, 195), none, 1051, 107, 1052, 1053), ((117, 0, 244, 211), none, 1746, 119, 1747, 1748), ((118, 0, 130, 194), none, 1075, 107, 1076, 1077), ((121, 0, 245, 210), none, 1754, 119, 1755, 1756), ((122, 0, 131, 195), none, 1085, 107, 1086, 1087), ((125, 0, 246, 211), none, 1763, 119, 1764, 1765), ((126, 0, 132, 195), none, 1094, 107, 1095, 1096), ((129, 0, 247, 211), none, 1767, 119, 1768, 1769), ((130, 0, 133, 195), none, 1106, 107, 1107, 1108), ((133, 0, 250, 211), none, 1779, 119, 1780, 1781), ((134, 0, 134, 194), none, 1111, 107, 1112, 1113), ((137, 0, 252, 210), none, 1783, 119, 1784, 1785), ((138, 0, 135, 194), none, 1120, 107, 1121, 1122), ((141, 0, 253, 210), none, 1791, 119, 1792, 1793), ((142, 0, 136, 195), none, 1124, 107, 1125, 1126), ((145, 0, 255, 211), none, 1795, 119, 1796, 1797), ((146, 0, 137, 195), none, 1133, 107, 1134, 1135), ((149, 0, 256, 211), none, 1803, 119, 1804, 1805), ((150, 0, 138, 194), none, 1137, 107, 1138, 1139), ((153, 0, 257, 210), none, 1807, 119, 1808, 1809), ((154, 0, 139, 194), none, 1141, 107, 1142, 1143), ((157, 0, 263, 210), none, 1811, 119, 1812, 1813), ((158, 0, 140, 194), none, 1190, 107, 1191, 1192), ((161, 0, 265, 210), none, 1835, 119, 1836, 1837), ((162, 0, 141, 194), none, 1209, 107, 1210, 1211), ((165, 0, 266, 210), none, 1843, 119, 1844, 1845), ((166, 0, 142, 193), none, 1217, 107, 1218, 1219), ((169, 0, 159, 209), none, 1415, 119, 1416, 1417), ((170, 0, 143, 193), none, 1234, 107, 1235, 1236), ((173, 0, 269, 209), none, 1847, 119, 1848, 1849), ((174, 0, 144, 194), none, 1246, 107, 1247, 1248), ((177, 0, 270, 210), none, 1859, 119, 1860, 1861)]
  | _ => []
def ztb : zTb := (fun oc => (zflX oc).map Prod.fst, fun oc => (znlX oc).map Prod.fst, fun oc => (zalX oc).map Prod.fst, fun oc => (zmmX oc).map Prod.fst, fun oc => (zkiX oc).map Prod.fst, fun oc => (zklX oc).map Prod.fst, fun oc => (zmlX oc).map Prod.fst)
def zys : List MethodName := [yX0_init, yX0_begin, yX0_addRemark, yX0_dueBales, yX0_worthOf, yX1_init, yX1_takeItems, yX1_takeBill, yX1_isTold, yX1_takeCouple, yX1_takeLine, yX1_cutTo, yX1_keepMeasured, yX1_takeOut, yX1_putBack, yX1_gapsOf, yX1_readBy, yX1_readSeen, yX1_cureFor, yX1_isCure, yX1_chargeEach, yX1_balesIn, yX1_linesIn, yX1_marksIn, yX1_firstSeen, yX1_surplusIn, yX1_isIn, yX1_setAgainst, yX1_leavingOut, yX1_setAgainstShore, yX2_init, yX2_undo, yX2_swapLaw, yX3_init, yX3_refresh, yX3_begin, yX3_reaches, yX3_cheapestEnd, yX3_goStraight, yX3_goRound, yX3_turn, yX3_bringTo, yX3_mostTo, yX4_init, yX4_takeFrom, yX4_takeSum, yX4_takeProduct, yX4_takeThing, yX4_isSumSign, yX4_isProductSign, yX4_add, yX4_agree, yX4_valueOf, yX4_join, yX5_init, yX5_couldMend, yX6_init, yX6_refresh, yX6_weighBills, yX6_measure, yX6_moveFrom, yX6_broughtTo, yX7_init, yX7_gather, yX7_isNearest, yX7_weigh, yX7_balesOf, yX7_leastInAll, yX7_leastWith, yX7_billFor, yX7_fixFirst, yX7_allowOnly, yX8_init, yX8_codeOf, yX8_octetOf, yX8_append, yX8_sizeOf, yX8_signAt, yX8_has, yX8_wearAt, yX8_octetAt, yX8_areLike, yX8_setCost, yX8_addCouple, yX8_cutCouples, yX8_gap, yX9_init, yX9_refresh, yX9_count, yX9_heapOf, yX9_linesThatAre, yX9_unreadIn, yX10_init, yX10_add, yX10_rewind, yX10_next, yX10_fail, yX10_skip, yX10_isDigit, yX10_digitUpTo, yX10_digits, yX10_amount, yX10_sign, yX10_signs, yX11_init, yX11_feed, yX11_end, yX11_text, yX11_law, yX11_fault, yX11_is, yX11_bill, yX11_line, yX11_apart, yX11_read, yX11_least, yX11_heap, yX11_tally, yX11_brought, yX11_matched, yX11_best, yX11_remark, yX11_remarked, yX11_claim, yX11_limit, yX11_far, yX11_pack, yX11_paid, yX11_against, yX11_hold, yX11_close, yX11_blame, yX11_worn, yX11_twin, yX11_shed, yX11_days, yX11_rate, yX11_deliver, yX11_gone, yX11_settled, yX11_cure, yX11_strike, yX11_back, yX11_write, yX11_octet, yX11_within, yX11_isBill, yX11_isLine, yX11_isHold, yX11_put, yX11_putNumber, yX11_matchAll, yX11_paidFor, yX11_balesInShed, yX11_noteDeed, yX11_forgetAnswers, yX12_isIn, yX12_init, yX12_deed, yX12_back, yX12_four, yX12_feed, yX12_end, yX12_here, yX12_isFigure, yX12_isSign, yX12_fails, yX12_takes, yX12_fault, yX12_readDigits, yX12_readCount, yX12_readOne, yX12_readMark, yX12_isLike, yX12_billAt, yX12_lineAt, yX12_isSame, yX12_readBill, yX12_readCouple, yX12_readLine, yX12_readText, yX12_countItems, yX12_text, yX12_does, yX12_nameOf, yX12_readThing, yX12_isProductSign, yX12_goesOn, yX12_readLaw, yX12_law, yX12_joined, yX12_lesser, yX12_most, yX12_agree, yX12_change, yX12_apartOf, yX12_lineApart, yX12_billApart, yX12_isBill, yX12_isLine, yX12_apart, yX12_layNear, yX12_readOf, yX12_lineRead, yX12_read, yX12_least, yX12_heapAt, yX12_layReads, yX12_due, yX12_countReads, yX12_is, yX12_bill, yX12_line, yX12_apartFrom, yX12_isSource, yX12_layShort, yX12_layMatched, yX12_matchedTo, yX12_tally, yX12_heap, yX12_brought, yX12_matched, yX12_layWays, yX12_goAlong, yX12_layBest, yX12_best, yX12_remark, yX12_remarked, yX12_become, yX12_claim, yX12_limit, yX12_far, yX12_pack, yX12_paidFor, yX12_paid, yX12_layHold, yX12_bearing, yX12_standing, yX12_offers, yX12_layAgainst, yX12_isHold, yX12_against, yX12_difference, yX12_isAgain, yX12_hold, yX12_close, yX12_blame, yX12_worn, yX12_readSpare, yX12_spareApart, yX12_twin, yX12_shedOf, yX12_shed, yX12_days, yX12_charge, yX12_rate, yX12_deliver, yX12_gone, yX12_isNear, yX12_comesTo, yX12_offOf, yX12_laySettled, yX12_takes_, yX12_settled, yX12_isCure, yX12_cure, yX12_strike, yX12_writes, yX12_writeNumber, yX12_write, yX12_octet, yJ9_abs_0f7a4, yJ9_max_7cf53, yJ9_min_7cf53, yL_law]
def zatw (i : Nat) (w : Cond) : Bool := decide (lw_tbl[i]? = some w) && goodWord w
theorem zatw_in {i : Nat} {w : Cond} (h : zatw i w = true) : w ∈ zws := by
  unfold zatw at h
  rw [Bool.and_eq_true] at h
  exact zws_mem (List.mem_of_getElem? (of_decide_eq_true h.1)) h.2
def zckF (oc : Nat) (x : (Nat × Nat × Nat × Bool × Nat) × Nat) : Bool := match vwCl[x.1.2.1]? with
  | some (_, T, N) => decide (x.1.2.2.1 < N) && zatw x.2 (Cond.fieldLink (zcn oc) x.1.1 (T x.1.2.2.1).1 (T x.1.2.2.1).2.1 (T x.1.2.2.1).2.2.1) && decide ((T x.1.2.2.1).2.2.2 = x.1.2.2.2.1) && decide ((parseFieldDescriptor (T x.1.2.2.1).2.2.1).map zfo = some x.1.2.2.2.2) && decide (x.1.2.2.2.2 ≤ 3) && decide (x.1.2.2.1 < 64)
  | none => false
def zckN (oc : Nat) (x : (Nat × Nat) × Nat) : Bool := match vwCl[x.1.2]? with
  | some (C, _, _) => zatw x.2 (Cond.classLink (zcn oc) x.1.1 C)
  | none => false
def zckA (oc : Nat) (x : (Nat × Nat) × Nat × Nat) : Bool := decide (20 ≤ x.1.2 ∧ x.1.2 ≤ 22) && zatw x.2.1 (Cond.classLink (zcn oc) x.1.1 (zkc x.1.2)) && decide (lw_tbl[x.2.2]? = some (Cond.arrayOver (.object (zkc x.1.2))))
def zckm (oc : Nat) (x : Nat × Nat) : Bool := zatw x.2 (Cond.classLink (zcn oc) x.1 ("[" ++ (FieldType.array .int).toString))
def zckI (oc : Nat) (x : (Nat × Nat) × Nat) : Bool := zatw x.2 (Cond.constant (zcn oc) x.1.1 (zI x.1.2))
def zckL (oc : Nat) (x : (Nat × Nat) × Nat) : Bool := zatw x.2 (Cond.constantLong (zcn oc) x.1.1 (zI6 x.1.2))
def zckl (own : String) (i : Nat) (y : MethodName) (h : Option String) (p : Nat) : Bool := match h with
  | none => zatw p (Cond.methodLink own i y)
  | some host => decide (lw_tbl[p]? = some (Cond.methodLinkNest own i y host))
theorem zckl_in {own : String} {i : Nat} {y : MethodName} {h : Option String} {p : Nat} (hh : zckl own i y h p = true) : zlink own i y := by
  cases h with
  | none => exact Or.inl (zatw_in hh)
  | some host => exact Or.inr ⟨host, List.mem_of_getElem? (of_decide_eq_true hh)⟩
def zckM (oc : Nat) (x : (Nat × Nat × Nat × Nat) × Option String × Nat × Nat × Nat × Nat) : Bool :=
  if x.1.2.2.1 = 511 then decide (x.1.2.1 = 2) && decide (x.1.2.2.2 = 1) && zatw x.2.2.1 (Cond.methodLink (zcn oc) x.1.1 objectInit) && zatw x.2.2.2.1 (Cond.instanceMethod objectInit) && zatw x.2.2.2.2.1 (Cond.code objectInit ⟨#[0xb1]⟩ 1 none)
  else match zys[x.1.2.2.1]? with
    | some y => zckl (zcn oc) x.1.1 y x.2.1 x.2.2.1 && zatw x.2.2.2.1 (Cond.initialized y.cls) &&
      (match x.1.2.1 with
        | 0 => zatw x.2.2.2.2.1 (Cond.instanceMethod y) && zatw x.2.2.2.2.2 (Cond.selects y.cls y y) && decide ((parseMethodDescriptor y.desc).map (fun d => d.parameters.length + 1) = some (x.1.2.2.2 % 16)) && decide (x.1.2.2.2 / 16 ≠ 0) && (match vwCl[x.1.2.2.2 / 16 - 1]? with
          | some (C, _, _) => decide (C = y.cls)
          | none => false)
        | 1 => zatw x.2.2.2.2.1 (Cond.static y) && decide ((parseMethodDescriptor y.desc).map (fun d => d.parameters.length) = some (x.1.2.2.2 % 16)) && decide (x.1.2.2.2 / 16 = 0)
        | 2 => decide (y.name = "<init>") && zatw x.2.2.2.2.1 (Cond.instanceMethod y) && decide ((parseMethodDescriptor y.desc).map (fun d => d.parameters.length + 1) = some (x.1.2.2.2 % 16)) && decide (x.1.2.2.2 / 16 = 0)
        | _ => false)
    | none => false
theorem zFl_ok (h : ∀ oc, (zflX oc).all (zckF oc) = true) : zFlOK ztb := by
  intro oc i ci k fin ft hm
  obtain ⟨⟨q, pl⟩, hq, he⟩ := List.mem_map.mp hm
  cases he
  have hc := List.all_eq_true.mp (h oc) _ hq
  unfold zckF at hc
  split at hc
  · rename_i C T N hv
    simp only [Bool.and_eq_true, decide_eq_true_eq] at hc
    obtain ⟨⟨⟨⟨⟨h1, h2⟩, h3⟩, h4⟩, h5⟩, h6⟩ := hc
    exact ⟨C, T, N, hv, h1, zatw_in h2, h3, h4, h5, h6⟩
  · cases hc
theorem zNl_ok (h : ∀ oc, (znlX oc).all (zckN oc) = true) : zNlOK ztb := by
  intro oc i ci hm
  obtain ⟨⟨q, pl⟩, hq, he⟩ := List.mem_map.mp hm
  cases he
  have hc := List.all_eq_true.mp (h oc) _ hq
  unfold zckN at hc
  split at hc
  · rename_i C T N hv
    exact ⟨C, T, N, hv, zatw_in hc⟩
  · cases hc
theorem zAl_ok (h : ∀ oc, (zalX oc).all (zckA oc) = true) : zAlOK ztb := by
  intro oc i k hm
  obtain ⟨⟨q, pl, pl2⟩, hq, he⟩ := List.mem_map.mp hm
  cases he
  have hc := List.all_eq_true.mp (h oc) _ hq
  unfold zckA at hc
  simp only [Bool.and_eq_true, decide_eq_true_eq] at hc
  exact ⟨hc.1.1, zatw_in hc.1.2, List.mem_of_getElem? hc.2⟩
theorem zMm_ok (h : ∀ oc, (zmmX oc).all (zckm oc) = true) : zMmOK ztb := by
  intro oc i hm
  obtain ⟨⟨q, pl⟩, hq, he⟩ := List.mem_map.mp hm
  cases he
  exact zatw_in (List.all_eq_true.mp (h oc) _ hq)
theorem zKi_ok (h : ∀ oc, (zkiX oc).all (zckI oc) = true) : zKiOK ztb := by
  intro oc i u hm
  obtain ⟨⟨q, pl⟩, hq, he⟩ := List.mem_map.mp hm
  cases he
  exact zatw_in (List.all_eq_true.mp (h oc) _ hq)
theorem zKl_ok (h : ∀ oc, (zklX oc).all (zckL oc) = true) : zKlOK ztb := by
  intro oc i u hm
  obtain ⟨⟨q, pl⟩, hq, he⟩ := List.mem_map.mp hm
  cases he
  exact zatw_in (List.all_eq_true.mp (h oc) _ hq)
theorem zMl_ok (h : ∀ oc, (zmlX oc).all (zckM oc) = true) : zMlOK ztb zys := by
  intro oc i kd mj a2 hm
  obtain ⟨⟨q, ho, p1, p2, p3, p4⟩, hq, he⟩ := List.mem_map.mp hm
  cases he
  have hc := List.all_eq_true.mp (h oc) _ hq
  unfold zckM at hc
  dsimp only at hc
  split at hc
  · rename_i h511
    simp only [Bool.and_eq_true, decide_eq_true_eq] at hc
    obtain ⟨⟨⟨⟨h1, h2⟩, h3⟩, h4⟩, h5⟩ := hc
    exact Or.inl ⟨h511, h1, h2, zatw_in h3, zatw_in h4, zatw_in h5⟩
  · rename_i hne
    split at hc
    · rename_i y hy
      rw [Bool.and_eq_true, Bool.and_eq_true] at hc
      obtain ⟨⟨h1, h2⟩, h3⟩ := hc
      refine Or.inr ⟨hne, y, hy, zckl_in h1, zatw_in h2, ?_⟩
      split at h3
      · simp only [Bool.and_eq_true, decide_eq_true_eq] at h3
        obtain ⟨⟨⟨⟨g1, g2⟩, g3⟩, g4⟩, g5⟩ := h3
        split at g5
        · rename_i C T N hv
          have g5 := of_decide_eq_true g5
          subst g5
          exact Or.inl ⟨rfl, zatw_in g1, zatw_in g2, g3, g4, T, N, hv⟩
        · cases g5
      · simp only [Bool.and_eq_true, decide_eq_true_eq] at h3
        exact Or.inr (Or.inl ⟨rfl, zatw_in h3.1.1, h3.1.2, h3.2⟩)
      · simp only [Bool.and_eq_true, decide_eq_true_eq] at h3
        exact Or.inr (Or.inr ⟨rfl, h3.1.1.1, zatw_in h3.1.1.2, h3.1.2, h3.2⟩)
      · cases h3
    · cases hc
theorem zcF_0 : (zflX 0).all (zckF 0) = true := by decide +kernel
theorem zcF_1 : (zflX 1).all (zckF 1) = true := by decide +kernel
theorem zcF_2 : (zflX 2).all (zckF 2) = true := by decide +kernel
theorem zcF_3 : (zflX 3).all (zckF 3) = true := by decide +kernel
theorem zcF_4 : (zflX 4).all (zckF 4) = true := by decide +kernel
theorem zcF_5 : (zflX 5).all (zckF 5) = true := by decide +kernel
theorem zcF_6 : (zflX 6).all (zckF 6) = true := by decide +kernel
theorem zcF_7 : (zflX 7).all (zckF 7) = true := by decide +kernel
theorem zcF_8 : (zflX 8).all (zckF 8) = true := by decide +kernel
theorem zcF_9 : (zflX 9).all (zckF 9) = true := by decide +kernel
theorem zcF_10 : (zflX 10).all (zckF 10) = true := by decide +kernel
theorem zcF_11 : (zflX 11).all (zckF 11) = true := by decide +kernel
theorem zcF_12 : (zflX 12).all (zckF 12) = true := by decide +kernel
theorem zcF_all : ∀ oc, (zflX oc).all (zckF oc) = true := by
  intro oc
  match oc with
  | 0 => exact zcF_0
  | 1 => exact zcF_1
  | 2 => exact zcF_2
  | 3 => exact zcF_3
  | 4 => exact zcF_4
  | 5 => exact zcF_5
  | 6 => exact zcF_6
  | 7 => exact zcF_7
  | 8 => exact zcF_8
  | 9 => exact zcF_9
  | 10 => exact zcF_10
  | 11 => exact zcF_11
  | 12 => exact zcF_12
  | n + 13 => rfl
theorem zcN_1 : (znlX 1).all (zckN 1) = true := by decide +kernel
theorem zcN_2 : (znlX 2).all (zckN 2) = true := by decide +kernel
theorem zcN_11 : (znlX 11).all (zckN 11) = true := by decide +kernel
theorem zcN_14 : (znlX 14).all (zckN 14) = true := by decide +kernel
theorem zcN_all : ∀ oc, (znlX oc).all (zckN oc) = true := by
  intro oc
  match oc with
  | 0 => rfl
  | 1 => exact zcN_1
  | 2 => exact zcN_2
  | 3 => rfl
  | 4 => rfl
  | 5 => rfl
  | 6 => rfl
  | 7 => rfl
  | 8 => rfl
  | 9 => rfl
  | 10 => rfl
  | 11 => exact zcN_11
  | 12 => rfl
  | 13 => rfl
  | 14 => exact zcN_14
  | n + 15 => rfl
theorem zcA_1 : (zalX 1).all (zckA 1) = true := by decide +kernel
theorem zcA_11 : (zalX 11).all (zckA 11) = true := by decide +kernel
theorem zcA_all : ∀ oc, (zalX oc).all (zckA oc) = true := by
  intro oc
  match oc with
  | 0 => rfl
  | 1 => exact zcA_1
  | 2 => rfl
  | 3 => rfl
  | 4 => rfl
  | 5 => rfl
  | 6 => rfl
  | 7 => rfl
  | 8 => rfl
  | 9 => rfl
  | 10 => rfl
  | 11 => exact zcA_11
  | n + 12 => rfl
theorem zcm_3 : (zmmX 3).all (zckm 3) = true := by decide +kernel
theorem zcm_6 : (zmmX 6).all (zckm 6) = true := by decide +kernel
theorem zcm_7 : (zmmX 7).all (zckm 7) = true := by decide +kernel
theorem zcm_8 : (zmmX 8).all (zckm 8) = true := by decide +kernel
theorem zcm_all : ∀ oc, (zmmX oc).all (zckm oc) = true := by
  intro oc
  match oc with
  | 0 => rfl
  | 1 => rfl
  | 2 => rfl
  | 3 => exact zcm_3
  | 4 => rfl
  | 5 => rfl
  | 6 => exact zcm_6
  | 7 => exact zcm_7
  | 8 => exact zcm_8
  | n + 9 => rfl
theorem zcI_3 : (zkiX 3).all (zckI 3) = true := by decide +kernel
theorem zcI_4 : (zkiX 4).all (zckI 4) = true := by decide +kernel
theorem zcI_7 : (zkiX 7).all (zckI 7) = true := by decide +kernel
theorem zcI_11 : (zkiX 11).all (zckI 11) = true := by decide +kernel
theorem zcI_12 : (zkiX 12).all (zckI 12) = true := by decide +kernel
theorem zcI_all : ∀ oc, (zkiX oc).all (zckI oc) = true := by
  intro oc
  match oc with
  | 0 => rfl
  | 1 => rfl
  | 2 => rfl
  | 3 => exact zcI_3
  | 4 => exact zcI_4
  | 5 => rfl
  | 6 => rfl
  | 7 => exact zcI_7
  | 8 => rfl
  | 9 => rfl
  | 10 => rfl
  | 11 => exact zcI_11
  | 12 => exact zcI_12
  | n + 13 => rfl
theorem zcL_8 : (zklX 8).all (zckL 8) = true := by decide +kernel
theorem zcL_all : ∀ oc, (zklX oc).all (zckL oc) = true := by
  intro oc
  match oc with
  | 0 => rfl
  | 1 => rfl
  | 2 => rfl
  | 3 => rfl
  | 4 => rfl
  | 5 => rfl
  | 6 => rfl
  | 7 => rfl
  | 8 => exact zcL_8
  | n + 9 => rfl
theorem zcM_0 : (zmlX 0).all (zckM 0) = true := by decide +kernel
theorem zcM_1 : (zmlX 1).all (zckM 1) = true := by decide +kernel
theorem zcM_2 : (zmlX 2).all (zckM 2) = true := by decide +kernel
theorem zcM_3 : (zmlX 3).all (zckM 3) = true := by decide +kernel
theorem zcM_4 : (zmlX 4).all (zckM 4) = true := by decide +kernel
theorem zcM_5 : (zmlX 5).all (zckM 5) = true := by decide +kernel
theorem zcM_6 : (zmlX 6).all (zckM 6) = true := by decide +kernel
theorem zcM_7 : (zmlX 7).all (zckM 7) = true := by decide +kernel
theorem zcM_8 : (zmlX 8).all (zckM 8) = true := by decide +kernel
theorem zcM_9 : (zmlX 9).all (zckM 9) = true := by decide +kernel
theorem zcM_10 : (zmlX 10).all (zckM 10) = true := by decide +kernel
theorem zcM_11 : (zmlX 11).all (zckM 11) = true := by decide +kernel
theorem zcM_12 : (zmlX 12).all (zckM 12) = true := by decide +kernel
theorem zcM_14 : (zmlX 14).all (zckM 14) = true := by decide +kernel
theorem zcM_all : ∀ oc, (zmlX oc).all (zckM oc) = true := by
  intro oc
  match oc with
  | 0 => exact zcM_0
  | 1 => exact zcM_1
  | 2 => exact zcM_2
  | 3 => exact zcM_3
  | 4 => exact zcM_4
  | 5 => exact zcM_5
  | 6 => exact zcM_6
  | 7 => exact zcM_7
  | 8 => exact zcM_8
  | 9 => exact zcM_9
  | 10 => exact zcM_10
  | 11 => exact zcM_11
  | 12 => exact zcM_12
  | 13 => rfl
  | 14 => exact zcM_14
  | n + 15 => rfl
theorem zin_of {us : List Cond} {ps : List Nat} (h : (us.zip ps).all (fun x => zatw x.2 x.1) = true) (hl : us.length ≤ ps.length) : ∀ w ∈ us, w ∈ zws := by
  intro w hw
  obtain ⟨i, hi⟩ := List.getElem?_of_mem hw
  have hlt := (List.getElem?_eq_some_iff.mp hi).1
  have hz : (us.zip ps)[i]? = some (w, ps[i]'(by omega)) := by
    rw [List.getElem?_zip_eq_some]
    exact ⟨hi, List.getElem?_eq_getElem _⟩
  exact zatw_in (List.all_eq_true.mp h _ (List.mem_of_getElem? hz))
theorem zin_0 : ∀ w ∈ u_ws RX0 TX0 8, w ∈ zws := zin_of (ps := [216, 218, 220, 222, 224, 226, 228, 230]) (by decide +kernel) (by decide +kernel)
theorem zcl_0 : RX0 = zcn 0 ∧ (∀ k, k < 8 → (TX0 k).1 = RX0) ∧ (∀ w ∈ u_ws RX0 TX0 8, w ∈ zws) ∧ (∃ ty : Nat → FieldType, (∀ k, k < 8 → parseFieldDescriptor (TX0 k).2.2.1 = some (ty k)) ∧ ∀ k, k < 8 → zfo (ty k) ≤ 3 ∧ zget (zini 0).2.2.2 k = zdf (zfo (ty k))) ∧ (∀ a, a < 8 → ∀ b, b < 8 → a ≠ b → (TX0 a).2.1 ≠ (TX0 b).2.1) ∧ Cond.instantiable RX0 8 ∈ zws ∧ Cond.initialized RX0 ∈ zws ∧ (zini 0).1 = 0 ∧ (zini 0).2.1 = 8 ∧ 8 < 64 ∧ ∃ d, zfull d 0 (zini 0).2.2.2 ∧ 8 ≤ 2 ^ d :=
  ⟨rfl, by decide +kernel, zin_0, ⟨tyX0, tyX0_ok, by decide +kernel⟩, nmX0, zatw_in (i := 188) (by decide +kernel), zatw_in (i := 111) (by decide +kernel), rfl, rfl, by decide, 3, by simp [zini, zfull], by decide⟩
theorem zin_1 : ∀ w ∈ u_ws RX1 TX1 17, w ∈ zws := zin_of (ps := [326, 328, 330, 332, 334, 336, 338, 340, 342, 344, 346, 348, 350, 352, 354, 356, 358]) (by decide +kernel) (by decide +kernel)
theorem zcl_1 : RX1 = zcn 1 ∧ (∀ k, k < 17 → (TX1 k).1 = RX1) ∧ (∀ w ∈ u_ws RX1 TX1 17, w ∈ zws) ∧ (∃ ty : Nat → FieldType, (∀ k, k < 17 → parseFieldDescriptor (TX1 k).2.2.1 = some (ty k)) ∧ ∀ k, k < 17 → zfo (ty k) ≤ 3 ∧ zget (zini 1).2.2.2 k = zdf (zfo (ty k))) ∧ (∀ a, a < 17 → ∀ b, b < 17 → a ≠ b → (TX1 a).2.1 ≠ (TX1 b).2.1) ∧ Cond.instantiable RX1 17 ∈ zws ∧ Cond.initialized RX1 ∈ zws ∧ (zini 1).1 = 1 ∧ (zini 1).2.1 = 17 ∧ 17 < 64 ∧ ∃ d, zfull d 0 (zini 1).2.2.2 ∧ 17 ≤ 2 ^ d :=
  ⟨rfl, by decide +kernel, zin_1, ⟨tyX1, tyX1_ok, by decide +kernel⟩, nmX1, zatw_in (i := 130) (by decide +kernel), zatw_in (i := 108) (by decide +kernel), rfl, rfl, by decide, 5, by simp [zini, zfull], by decide⟩
theorem zin_2 : ∀ w ∈ u_ws RX2 TX2 6, w ∈ zws := zin_of (ps := [583, 585, 587, 589, 591, 593]) (by decide +kernel) (by decide +kernel)
theorem zcl_2 : RX2 = zcn 2 ∧ (∀ k, k < 6 → (TX2 k).1 = RX2) ∧ (∀ w ∈ u_ws RX2 TX2 6, w ∈ zws) ∧ (∃ ty : Nat → FieldType, (∀ k, k < 6 → parseFieldDescriptor (TX2 k).2.2.1 = some (ty k)) ∧ ∀ k, k < 6 → zfo (ty k) ≤ 3 ∧ zget (zini 2).2.2.2 k = zdf (zfo (ty k))) ∧ (∀ a, a < 6 → ∀ b, b < 6 → a ≠ b → (TX2 a).2.1 ≠ (TX2 b).2.1) ∧ Cond.instantiable RX2 6 ∈ zws ∧ Cond.initialized RX2 ∈ zws ∧ (zini 2).1 = 2 ∧ (zini 2).2.1 = 6 ∧ 6 < 64 ∧ ∃ d, zfull d 0 (zini 2).2.2.2 ∧ 6 ≤ 2 ^ d :=
  ⟨rfl, by decide +kernel, zin_2, ⟨tyX2, tyX2_ok, by decide +kernel⟩, nmX2, zatw_in (i := 562) (by decide +kernel), zatw_in (i := 118) (by decide +kernel), rfl, rfl, by decide, 3, by simp [zini, zfull], by decide⟩
theorem zin_3 : ∀ w ∈ u_ws RX3 TX3 11, w ∈ zws := zin_of (ps := [508, 510, 512, 514, 516, 518, 520, 522, 524, 526, 528]) (by decide +kernel) (by decide +kernel)
theorem zcl_3 : RX3 = zcn 3 ∧ (∀ k, k < 11 → (TX3 k).1 = RX3) ∧ (∀ w ∈ u_ws RX3 TX3 11, w ∈ zws) ∧ (∃ ty : Nat → FieldType, (∀ k, k < 11 → parseFieldDescriptor (TX3 k).2.2.1 = some (ty k)) ∧ ∀ k, k < 11 → zfo (ty k) ≤ 3 ∧ zget (zini 3).2.2.2 k = zdf (zfo (ty k))) ∧ (∀ a, a < 11 → ∀ b, b < 11 → a ≠ b → (TX3 a).2.1 ≠ (TX3 b).2.1) ∧ Cond.instantiable RX3 11 ∈ zws ∧ Cond.initialized RX3 ∈ zws ∧ (zini 3).1 = 3 ∧ (zini 3).2.1 = 11 ∧ 11 < 64 ∧ ∃ d, zfull d 0 (zini 3).2.2.2 ∧ 11 ≤ 2 ^ d :=
  ⟨rfl, by decide +kernel, zin_3, ⟨tyX3, tyX3_ok, by decide +kernel⟩, nmX3, zatw_in (i := 488) (by decide +kernel), zatw_in (i := 116) (by decide +kernel), rfl, rfl, by decide, 4, by simp [zini, zfull], by decide⟩
theorem zin_4 : ∀ w ∈ u_ws RX4 TX4 4, w ∈ zws := zin_of (ps := [179, 181, 183, 185]) (by decide +kernel) (by decide +kernel)
theorem zcl_4 : RX4 = zcn 4 ∧ (∀ k, k < 4 → (TX4 k).1 = RX4) ∧ (∀ w ∈ u_ws RX4 TX4 4, w ∈ zws) ∧ (∃ ty : Nat → FieldType, (∀ k, k < 4 → parseFieldDescriptor (TX4 k).2.2.1 = some (ty k)) ∧ ∀ k, k < 4 → zfo (ty k) ≤ 3 ∧ zget (zini 4).2.2.2 k = zdf (zfo (ty k))) ∧ (∀ a, a < 4 → ∀ b, b < 4 → a ≠ b → (TX4 a).2.1 ≠ (TX4 b).2.1) ∧ Cond.instantiable RX4 4 ∈ zws ∧ Cond.initialized RX4 ∈ zws ∧ (zini 4).1 = 4 ∧ (zini 4).2.1 = 4 ∧ 4 < 64 ∧ ∃ d, zfull d 0 (zini 4).2.2.2 ∧ 4 ≤ 2 ^ d :=
  ⟨rfl, by decide +kernel, zin_4, ⟨tyX4, tyX4_ok, by decide +kernel⟩, nmX4, zatw_in (i := 170) (by decide +kernel), zatw_in (i := 110) (by decide +kernel), rfl, rfl, by decide, 2, by simp [zini, zfull], by decide⟩
theorem zin_5 : ∀ w ∈ u_ws RX5 TX5 6, w ∈ zws := zin_of (ps := [257, 259, 261, 263, 265, 267]) (by decide +kernel) (by decide +kernel)
theorem zcl_5 : RX5 = zcn 5 ∧ (∀ k, k < 6 → (TX5 k).1 = RX5) ∧ (∀ w ∈ u_ws RX5 TX5 6, w ∈ zws) ∧ (∃ ty : Nat → FieldType, (∀ k, k < 6 → parseFieldDescriptor (TX5 k).2.2.1 = some (ty k)) ∧ ∀ k, k < 6 → zfo (ty k) ≤ 3 ∧ zget (zini 5).2.2.2 k = zdf (zfo (ty k))) ∧ (∀ a, a < 6 → ∀ b, b < 6 → a ≠ b → (TX5 a).2.1 ≠ (TX5 b).2.1) ∧ Cond.instantiable RX5 6 ∈ zws ∧ Cond.initialized RX5 ∈ zws ∧ (zini 5).1 = 5 ∧ (zini 5).2.1 = 6 ∧ 6 < 64 ∧ ∃ d, zfull d 0 (zini 5).2.2.2 ∧ 6 ≤ 2 ^ d :=
  ⟨rfl, by decide +kernel, zin_5, ⟨tyX5, tyX5_ok, by decide +kernel⟩, nmX5, zatw_in (i := 233) (by decide +kernel), zatw_in (i := 112) (by decide +kernel), rfl, rfl, by decide, 3, by simp [zini, zfull], by decide⟩
theorem zin_6 : ∀ w ∈ u_ws RX6 TX6 12, w ∈ zws := zin_of (ps := [462, 464, 466, 468, 470, 472, 474, 476, 478, 480, 482, 484]) (by decide +kernel) (by decide +kernel)
theorem zcl_6 : RX6 = zcn 6 ∧ (∀ k, k < 12 → (TX6 k).1 = RX6) ∧ (∀ w ∈ u_ws RX6 TX6 12, w ∈ zws) ∧ (∃ ty : Nat → FieldType, (∀ k, k < 12 → parseFieldDescriptor (TX6 k).2.2.1 = some (ty k)) ∧ ∀ k, k < 12 → zfo (ty k) ≤ 3 ∧ zget (zini 6).2.2.2 k = zdf (zfo (ty k))) ∧ (∀ a, a < 12 → ∀ b, b < 12 → a ≠ b → (TX6 a).2.1 ≠ (TX6 b).2.1) ∧ Cond.instantiable RX6 12 ∈ zws ∧ Cond.initialized RX6 ∈ zws ∧ (zini 6).1 = 6 ∧ (zini 6).2.1 = 12 ∧ 12 < 64 ∧ ∃ d, zfull d 0 (zini 6).2.2.2 ∧ 12 ≤ 2 ^ d :=
  ⟨rfl, by decide +kernel, zin_6, ⟨tyX6, tyX6_ok, by decide +kernel⟩, nmX6, zatw_in (i := 431) (by decide +kernel), zatw_in (i := 115) (by decide +kernel), rfl, rfl, by decide, 4, by simp [zini, zfull], by decide⟩
theorem zin_7 : ∀ w ∈ u_ws RX7 TX7 7, w ∈ zws := zin_of (ps := [545, 547, 549, 551, 553, 555, 557]) (by decide +kernel) (by decide +kernel)
theorem zcl_7 : RX7 = zcn 7 ∧ (∀ k, k < 7 → (TX7 k).1 = RX7) ∧ (∀ w ∈ u_ws RX7 TX7 7, w ∈ zws) ∧ (∃ ty : Nat → FieldType, (∀ k, k < 7 → parseFieldDescriptor (TX7 k).2.2.1 = some (ty k)) ∧ ∀ k, k < 7 → zfo (ty k) ≤ 3 ∧ zget (zini 7).2.2.2 k = zdf (zfo (ty k))) ∧ (∀ a, a < 7 → ∀ b, b < 7 → a ≠ b → (TX7 a).2.1 ≠ (TX7 b).2.1) ∧ Cond.instantiable RX7 7 ∈ zws ∧ Cond.initialized RX7 ∈ zws ∧ (zini 7).1 = 7 ∧ (zini 7).2.1 = 7 ∧ 7 < 64 ∧ ∃ d, zfull d 0 (zini 7).2.2.2 ∧ 7 ≤ 2 ^ d :=
  ⟨rfl, by decide +kernel, zin_7, ⟨tyX7, tyX7_ok, by decide +kernel⟩, nmX7, zatw_in (i := 532) (by decide +kernel), zatw_in (i := 117) (by decide +kernel), rfl, rfl, by decide, 3, by simp [zini, zfull], by decide⟩
theorem zin_8 : ∀ w ∈ u_ws RX8 TX8 6, w ∈ zws := zin_of (ps := [151, 153, 155, 157, 159, 161]) (by decide +kernel) (by decide +kernel)
theorem zcl_8 : RX8 = zcn 8 ∧ (∀ k, k < 6 → (TX8 k).1 = RX8) ∧ (∀ w ∈ u_ws RX8 TX8 6, w ∈ zws) ∧ (∃ ty : Nat → FieldType, (∀ k, k < 6 → parseFieldDescriptor (TX8 k).2.2.1 = some (ty k)) ∧ ∀ k, k < 6 → zfo (ty k) ≤ 3 ∧ zget (zini 8).2.2.2 k = zdf (zfo (ty k))) ∧ (∀ a, a < 6 → ∀ b, b < 6 → a ≠ b → (TX8 a).2.1 ≠ (TX8 b).2.1) ∧ Cond.instantiable RX8 6 ∈ zws ∧ Cond.initialized RX8 ∈ zws ∧ (zini 8).1 = 8 ∧ (zini 8).2.1 = 6 ∧ 6 < 64 ∧ ∃ d, zfull d 0 (zini 8).2.2.2 ∧ 6 ≤ 2 ^ d :=
  ⟨rfl, by decide +kernel, zin_8, ⟨tyX8, tyX8_ok, by decide +kernel⟩, nmX8, zatw_in (i := 136) (by decide +kernel), zatw_in (i := 109) (by decide +kernel), rfl, rfl, by decide, 3, by simp [zini, zfull], by decide⟩
theorem zin_9 : ∀ w ∈ u_ws RX9 TX9 8, w ∈ zws := zin_of (ps := [413, 415, 417, 419, 421, 423, 425, 427]) (by decide +kernel) (by decide +kernel)
theorem zcl_9 : RX9 = zcn 9 ∧ (∀ k, k < 8 → (TX9 k).1 = RX9) ∧ (∀ w ∈ u_ws RX9 TX9 8, w ∈ zws) ∧ (∃ ty : Nat → FieldType, (∀ k, k < 8 → parseFieldDescriptor (TX9 k).2.2.1 = some (ty k)) ∧ ∀ k, k < 8 → zfo (ty k) ≤ 3 ∧ zget (zini 9).2.2.2 k = zdf (zfo (ty k))) ∧ (∀ a, a < 8 → ∀ b, b < 8 → a ≠ b → (TX9 a).2.1 ≠ (TX9 b).2.1) ∧ Cond.instantiable RX9 8 ∈ zws ∧ Cond.initialized RX9 ∈ zws ∧ (zini 9).1 = 9 ∧ (zini 9).2.1 = 8 ∧ 8 < 64 ∧ ∃ d, zfull d 0 (zini 9).2.2.2 ∧ 8 ≤ 2 ^ d :=
  ⟨rfl, by decide +kernel, zin_9, ⟨tyX9, tyX9_ok, by decide +kernel⟩, nmX9, zatw_in (i := 387) (by decide +kernel), zatw_in (i := 114) (by decide +kernel), rfl, rfl, by decide, 3, by simp [zini, zfull], by decide⟩
theorem zin_10 : ∀ w ∈ u_ws RX10 TX10 4, w ∈ zws := zin_of (ps := [377, 379, 381, 383]) (by decide +kernel) (by decide +kernel)
theorem zcl_10 : RX10 = zcn 10 ∧ (∀ k, k < 4 → (TX10 k).1 = RX10) ∧ (∀ w ∈ u_ws RX10 TX10 4, w ∈ zws) ∧ (∃ ty : Nat → FieldType, (∀ k, k < 4 → parseFieldDescriptor (TX10 k).2.2.1 = some (ty k)) ∧ ∀ k, k < 4 → zfo (ty k) ≤ 3 ∧ zget (zini 10).2.2.2 k = zdf (zfo (ty k))) ∧ (∀ a, a < 4 → ∀ b, b < 4 → a ≠ b → (TX10 a).2.1 ≠ (TX10 b).2.1) ∧ Cond.instantiable RX10 4 ∈ zws ∧ Cond.initialized RX10 ∈ zws ∧ (zini 10).1 = 10 ∧ (zini 10).2.1 = 4 ∧ 4 < 64 ∧ ∃ d, zfull d 0 (zini 10).2.2.2 ∧ 4 ≤ 2 ^ d :=
  ⟨rfl, by decide +kernel, zin_10, ⟨tyX10, tyX10_ok, by decide +kernel⟩, nmX10, zatw_in (i := 362) (by decide +kernel), zatw_in (i := 113) (by decide +kernel), rfl, rfl, by decide, 2, by simp [zini, zfull], by decide⟩
theorem zin_11 : ∀ w ∈ u_ws RX11 TX11 11, w ∈ zws := zin_of (ps := [607, 609, 611, 613, 615, 617, 619, 621, 623, 625, 627]) (by decide +kernel) (by decide +kernel)
theorem zcl_11 : RX11 = zcn 11 ∧ (∀ k, k < 11 → (TX11 k).1 = RX11) ∧ (∀ w ∈ u_ws RX11 TX11 11, w ∈ zws) ∧ (∃ ty : Nat → FieldType, (∀ k, k < 11 → parseFieldDescriptor (TX11 k).2.2.1 = some (ty k)) ∧ ∀ k, k < 11 → zfo (ty k) ≤ 3 ∧ zget (zini 11).2.2.2 k = zdf (zfo (ty k))) ∧ (∀ a, a < 11 → ∀ b, b < 11 → a ≠ b → (TX11 a).2.1 ≠ (TX11 b).2.1) ∧ Cond.instantiable RX11 11 ∈ zws ∧ Cond.initialized RX11 ∈ zws ∧ (zini 11).1 = 11 ∧ (zini 11).2.1 = 11 ∧ 11 < 64 ∧ ∃ d, zfull d 0 (zini 11).2.2.2 ∧ 11 ≤ 2 ^ d :=
  ⟨rfl, by decide +kernel, zin_11, ⟨tyX11, tyX11_ok, by decide +kernel⟩, nmX11, zatw_in (i := 122) (by decide +kernel), zatw_in (i := 107) (by decide +kernel), rfl, rfl, by decide, 4, by simp [zini, zfull], by decide⟩
theorem zin_12 : ∀ w ∈ u_ws RX12 TX12 52, w ∈ zws := zin_of (ps := [1308, 1310, 1312, 1314, 1316, 1318, 1320, 1322, 1324, 1326, 1328, 1330, 1332, 1334, 1336, 1338, 1340, 1342, 1344, 1346, 1348, 1350, 1352, 1354, 1356, 1358, 1360, 1362, 1364, 1366, 1368, 1370, 1372, 1374, 1376, 1378, 1380, 1382, 1384, 1386, 1388, 1390, 1392, 1394, 1396, 1398, 1400, 1402, 1404, 1406, 1408, 1410]) (by decide +kernel) (by decide +kernel)
theorem zcl_12 : RX12 = zcn 12 ∧ (∀ k, k < 52 → (TX12 k).1 = RX12) ∧ (∀ w ∈ u_ws RX12 TX12 52, w ∈ zws) ∧ (∃ ty : Nat → FieldType, (∀ k, k < 52 → parseFieldDescriptor (TX12 k).2.2.1 = some (ty k)) ∧ ∀ k, k < 52 → zfo (ty k) ≤ 3 ∧ zget (zini 12).2.2.2 k = zdf (zfo (ty k))) ∧ (∀ a, a < 52 → ∀ b, b < 52 → a ≠ b → (TX12 a).2.1 ≠ (TX12 b).2.1) ∧ Cond.instantiable RX12 52 ∈ zws ∧ Cond.initialized RX12 ∈ zws ∧ (zini 12).1 = 12 ∧ (zini 12).2.1 = 52 ∧ 52 < 64 ∧ ∃ d, zfull d 0 (zini 12).2.2.2 ∧ 52 ≤ 2 ^ d :=
  ⟨rfl, by decide +kernel, zin_12, ⟨tyX12, tyX12_ok, by decide +kernel⟩, nmX12, zatw_in (i := 1251) (by decide +kernel), zatw_in (i := 119) (by decide +kernel), rfl, rfl, by decide, 6, by simp [zini, zfull], by decide⟩
theorem zClOK_all : zClOK := by
  intro ci C T N h
  have hlt := vwCl_lt h
  match ci, h, hlt with
  | 0, h, _ => cases h; exact zcl_0
  | 1, h, _ => cases h; exact zcl_1
  | 2, h, _ => cases h; exact zcl_2
  | 3, h, _ => cases h; exact zcl_3
  | 4, h, _ => cases h; exact zcl_4
  | 5, h, _ => cases h; exact zcl_5
  | 6, h, _ => cases h; exact zcl_6
  | 7, h, _ => cases h; exact zcl_7
  | 8, h, _ => cases h; exact zcl_8
  | 9, h, _ => cases h; exact zcl_9
  | 10, h, _ => cases h; exact zcl_10
  | 11, h, _ => cases h; exact zcl_11
  | 12, h, _ => cases h; exact zcl_12
  | n + 13, _, hlt => exact absurd hlt (by omega)
theorem zAr_all : zArOK := ⟨zatw_in (i := 164) (by decide +kernel), zatw_in (i := 1413) (by decide +kernel), zatw_in (i := 1414) (by decide +kernel), List.mem_of_getElem? (i := 142) (by decide +kernel)⟩
def zckT (oc : Nat) (x : (Nat × Nat) × Nat) : Bool := zatw x.2 (Cond.methodLink (zcn oc) x.1.1 (zmy x.1.2))
theorem zcT_0 : (zmtX 0).all (zckT 0) = true := by decide +kernel
theorem zcT_1 : (zmtX 1).all (zckT 1) = true := by decide +kernel
theorem zcT_3 : (zmtX 3).all (zckT 3) = true := by decide +kernel
theorem zcT_4 : (zmtX 4).all (zckT 4) = true := by decide +kernel
theorem zcT_6 : (zmtX 6).all (zckT 6) = true := by decide +kernel
theorem zcT_7 : (zmtX 7).all (zckT 7) = true := by decide +kernel
theorem zcT_8 : (zmtX 8).all (zckT 8) = true := by decide +kernel
theorem zcT_9 : (zmtX 9).all (zckT 9) = true := by decide +kernel
theorem zcT_10 : (zmtX 10).all (zckT 10) = true := by decide +kernel
theorem zcT_11 : (zmtX 11).all (zckT 11) = true := by decide +kernel
theorem zcT_all : ∀ oc, (zmtX oc).all (zckT oc) = true := by
  intro oc
  match oc with
  | 0 => exact zcT_0
  | 1 => exact zcT_1
  | 2 => rfl
  | 3 => exact zcT_3
  | 4 => exact zcT_4
  | 5 => rfl
  | 6 => exact zcT_6
  | 7 => exact zcT_7
  | 8 => exact zcT_8
  | 9 => exact zcT_9
  | 10 => exact zcT_10
  | 11 => exact zcT_11
  | n + 12 => rfl
theorem zMt_all : zMtOK := by
  refine ⟨fun oc i k hm => ?_, fun k => ?_, zatw_in (i := 120) (by decide +kernel), zatw_in (i := 756) (by decide +kernel), zatw_in (i := 707) (by decide +kernel), zatw_in (i := 1050) (by decide +kernel)⟩
  · obtain ⟨⟨q, pl⟩, hq, he⟩ := List.mem_map.mp hm
    cases he
    exact zatw_in (List.all_eq_true.mp (zcT_all oc) _ hq)
  · match k with
    | 0 => exact zatw_in (i := 755) (by decide +kernel)
    | 1 => exact zatw_in (i := 706) (by decide +kernel)
    | _ + 2 => exact zatw_in (i := 1049) (w := Cond.static Lib.Math.abs.name) (by decide +kernel)
theorem zFx_all : zFx ztb zys := ⟨zFl_ok zcF_all, zClOK_all, zNl_ok zcN_all, zAl_ok zcA_all, zMm_ok zcm_all, zKi_ok zcI_all, zKl_ok zcL_all, zAr_all, zMl_ok zcM_all, zMt_all⟩
