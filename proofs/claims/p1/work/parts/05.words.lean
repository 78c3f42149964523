/-! THE TABLES' WORDS, by their places -/
def gtb : List Cond := lw_tbl.filter goodWord
def atb (i : Nat) (w : Cond) : Bool := decide (lw_tbl[i]? = some w) && goodWord w
theorem atb_mem {i : Nat} {w : Cond} (h : atb i w = true) : w ∈ gtb := by
  simp only [atb, Bool.and_eq_true, decide_eq_true_eq] at h
  exact List.mem_filter.mpr ⟨List.mem_of_getElem? h.1, h.2⟩
def flx : List (Nat × Nat × Nat × Nat × Nat) := [(11, 10, 11, 0, 683), (11, 19, 11, 1, 684), (11, 23, 11, 2, 685), (11, 30, 11, 3, 686), (11, 34, 7, 0, 323), (11, 38, 3, 3, 264), (11, 44, 3, 4, 267), (11, 56, 11, 4, 687), (11, 65, 11, 5, 688), (11, 74, 11, 6, 689), (11, 83, 11, 7, 690), (11, 92, 11, 8, 691), (11, 99, 11, 9, 692), (11, 103, 11, 10, 693), (11, 106, 11, 11, 694), (11, 109, 9, 1, 194), (11, 120, 9, 10, 208), (11, 123, 10, 1, 405), (11, 128, 10, 5, 412), (11, 131, 9, 9, 207), (11, 176, 0, 2, 364), (11, 179, 7, 1, 325), (11, 182, 9, 0, 193), (11, 204, 8, 2, 479), (11, 207, 8, 3, 481), (11, 210, 8, 4, 484), (11, 213, 8, 5, 487), (11, 216, 8, 6, 489), (11, 231, 4, 9, 446), (11, 234, 4, 8, 444), (11, 237, 7, 4, 332), (11, 244, 10, 2, 407), (11, 247, 10, 4, 410), (11, 254, 7, 3, 329), (11, 260, 3, 0, 254), (11, 272, 1, 6, 521), (11, 275, 1, 5, 519), (11, 279, 6, 3, 580), (11, 285, 6, 4, 582), (11, 301, 3, 1, 258), (11, 308, 3, 2, 263), (11, 315, 7, 5, 333), (0, 9, 0, 6, 368), (0, 15, 0, 0, 354), (0, 19, 0, 1, 357), (0, 28, 0, 2, 360), (0, 31, 0, 3, 365), (0, 34, 0, 4, 366), (0, 37, 0, 5, 367), (1, 9, 1, 5, 518), (1, 15, 1, 0, 513), (1, 25, 1, 1, 514), (1, 26, 1, 2, 515), (1, 30, 1, 3, 516), (1, 39, 1, 4, 517), (1, 47, 7, 3, 327), (1, 55, 1, 11, 526), (1, 61, 1, 14, 529), (1, 80, 0, 2, 362), (1, 84, 1, 6, 520), (1, 87, 1, 7, 522), (1, 91, 1, 8, 523), (1, 94, 1, 9, 524), (1, 97, 1, 10, 525), (1, 100, 1, 12, 527), (1, 103, 1, 13, 528), (1, 106, 1, 15, 530), (1, 109, 1, 16, 531), (1, 112, 1, 17, 532), (1, 155, 0, 1, 359), (1, 158, 0, 0, 356), (1, 161, 3, 2, 262), (1, 173, 8, 4, 483), (1, 174, 8, 5, 486), (1, 187, 8, 2, 478), (2, 9, 2, 1, 614), (2, 15, 2, 2, 616), (2, 18, 2, 3, 618), (2, 21, 2, 0, 612), (3, 9, 3, 8, 280), (3, 15, 3, 9, 282), (3, 18, 3, 10, 284), (3, 21, 3, 11, 286), (3, 24, 3, 12, 288), (3, 30, 3, 0, 251), (3, 34, 3, 1, 255), (3, 37, 3, 2, 259), (3, 40, 3, 3, 265), (3, 43, 3, 4, 268), (3, 46, 3, 5, 270), (3, 49, 3, 6, 274), (3, 52, 3, 7, 277), (4, 9, 4, 3, 438), (4, 15, 4, 0, 435), (4, 25, 4, 1, 436), (4, 26, 4, 2, 437), (4, 44, 0, 1, 358), (4, 48, 0, 0, 355), (4, 61, 4, 6, 441), (4, 64, 4, 7, 442), (4, 71, 4, 5, 440), (4, 74, 4, 4, 439), (4, 77, 7, 4, 331), (4, 101, 4, 8, 443), (4, 104, 4, 9, 445), (4, 110, 3, 5, 272), (5, 12, 5, 4, 635), (5, 18, 5, 5, 636), (5, 22, 5, 6, 637), (5, 25, 5, 7, 638), (5, 28, 5, 9, 640), (5, 31, 5, 10, 641), (5, 34, 5, 11, 642), (5, 37, 5, 12, 643), (5, 40, 5, 13, 644), (5, 43, 5, 0, 631), (5, 47, 5, 1, 632), (5, 51, 5, 2, 633), (5, 60, 5, 3, 634), (5, 64, 5, 8, 639), (5, 68, 3, 2, 260), (5, 83, 0, 2, 361), (5, 97, 3, 0, 253), (5, 115, 8, 2, 477), (5, 138, 2, 0, 613), (5, 141, 2, 1, 615), (5, 150, 5, 16, 647), (5, 153, 5, 14, 645), (5, 165, 5, 15, 646), (5, 168, 2, 3, 619), (5, 175, 2, 2, 617), (6, 9, 6, 3, 579), (6, 15, 6, 4, 581), (6, 18, 6, 5, 583), (6, 21, 6, 0, 576), (6, 25, 6, 1, 577), (6, 29, 6, 2, 578), (6, 39, 6, 6, 584), (6, 53, 0, 2, 363), (6, 77, 3, 1, 257), (7, 12, 7, 0, 320), (7, 18, 7, 1, 324), (7, 22, 7, 2, 326), (7, 35, 7, 3, 328), (7, 39, 7, 4, 330), (8, 9, 8, 2, 476), (8, 15, 8, 3, 480), (8, 18, 8, 4, 482), (8, 21, 8, 5, 485), (8, 24, 8, 6, 488), (8, 27, 8, 0, 474), (8, 31, 8, 1, 475), (8, 55, 3, 5, 271), (8, 60, 3, 6, 275), (8, 63, 3, 7, 278), (9, 9, 9, 0, 192), (9, 15, 9, 2, 196), (9, 34, 9, 1, 195), (9, 37, 9, 5, 200), (9, 46, 9, 3, 197), (9, 49, 9, 4, 198), (9, 52, 9, 9, 206), (9, 55, 9, 10, 209), (9, 61, 9, 6, 201), (9, 64, 9, 7, 203), (9, 82, 9, 8, 205), (10, 12, 10, 1, 404), (10, 18, 10, 2, 406), (10, 22, 10, 3, 408), (10, 25, 10, 0, 403), (10, 32, 10, 5, 411), (10, 36, 10, 6, 413), (10, 45, 9, 7, 202), (10, 55, 9, 5, 199), (10, 59, 3, 1, 256), (10, 62, 3, 0, 252), (10, 72, 9, 8, 204), (10, 90, 3, 11, 287), (10, 97, 3, 8, 281), (10, 107, 3, 9, 283), (10, 110, 3, 2, 261), (10, 113, 3, 12, 289), (10, 120, 3, 10, 285), (10, 136, 3, 3, 266), (10, 139, 3, 4, 269), (10, 142, 3, 5, 273), (10, 145, 3, 6, 276), (10, 148, 3, 7, 279), (10, 151, 10, 4, 409), (12, 1, 12, 0, 1428), (12, 7, 12, 2, 1430), (12, 14, 12, 1, 1429), (12, 18, 12, 3, 1431), (12, 21, 12, 4, 1432), (12, 24, 12, 5, 1433), (12, 33, 12, 6, 1434), (12, 37, 12, 7, 1435), (12, 40, 12, 8, 1436), (12, 43, 12, 9, 1437), (12, 47, 12, 10, 1438), (12, 50, 12, 21, 1449), (12, 53, 12, 22, 1450), (12, 56, 12, 23, 1451), (12, 59, 12, 28, 1456), (12, 62, 12, 30, 1458), (12, 65, 12, 31, 1459), (12, 68, 12, 32, 1460), (12, 71, 12, 33, 1461), (12, 74, 12, 38, 1466), (12, 77, 12, 39, 1467), (12, 80, 12, 40, 1468), (12, 83, 12, 48, 1476), (12, 86, 12, 49, 1477), (12, 89, 12, 51, 1479), (12, 92, 12, 52, 1480), (12, 95, 12, 53, 1481), (12, 98, 12, 54, 1482), (12, 101, 12, 55, 1483), (12, 105, 12, 59, 1487), (12, 108, 12, 60, 1488), (12, 111, 12, 61, 1489), (12, 114, 12, 62, 1490), (12, 158, 12, 12, 1440), (12, 161, 12, 13, 1441), (12, 164, 12, 11, 1439), (12, 174, 12, 14, 1442), (12, 177, 12, 17, 1445), (12, 181, 12, 15, 1443), (12, 184, 12, 16, 1444), (12, 200, 12, 18, 1446), (12, 211, 12, 20, 1448), (12, 243, 12, 19, 1447), (12, 297, 12, 26, 1454), (12, 300, 12, 27, 1455), (12, 303, 12, 24, 1452), (12, 306, 12, 25, 1453), (12, 312, 12, 29, 1457), (12, 319, 12, 34, 1462), (12, 322, 12, 35, 1463), (12, 334, 12, 36, 1464), (12, 337, 12, 37, 1465), (12, 346, 12, 43, 1471), (12, 355, 12, 41, 1469), (12, 358, 12, 42, 1470), (12, 361, 12, 44, 1472), (12, 364, 12, 45, 1473), (12, 370, 12, 47, 1475), (12, 373, 12, 46, 1474), (12, 398, 12, 50, 1478), (12, 407, 12, 57, 1485), (12, 410, 12, 58, 1486), (12, 416, 12, 56, 1484)]
theorem flx_ok : flx.all (fun q => atb q.2.2.2.2 (.fieldLink (cR q.1) q.2.1 (cR q.2.2.1) ((cT q.2.2.1) q.2.2.2.1).2.1 ((cT q.2.2.1) q.2.2.2.1).2.2.1) && decide (((cT q.2.2.1) q.2.2.2.1).1 = cR q.2.2.1) && decide (q.2.2.1 < 13 ∧ q.2.2.2.1 < cN q.2.2.1)) = true := by decide +kernel
def mlx : List (Nat × Nat × Nat × Nat) := [(11, 47, 0, 384), (11, 112, 73, 724), (11, 116, 85, 736), (11, 124, 66, 831), (11, 134, 26, 889), (11, 145, 29, 893), (11, 149, 27, 942), (11, 154, 30, 970), (11, 157, 28, 854), (11, 162, 31, 989), (11, 172, 101, 850), (11, 185, 223, 858), (11, 190, 2, 868), (11, 193, 5, 876), (11, 197, 6, 880), (11, 200, 70, 897), (11, 219, 44, 920), (11, 223, 46, 946), (11, 227, 48, 971), (11, 240, 94, 998), (11, 250, 67, 1006), (11, 263, 124, 1015), (11, 266, 9, 1018), (11, 269, 11, 1116), (11, 276, 117, 1128), (11, 282, 60, 1132), (11, 292, 123, 1172), (11, 295, 50, 1176), (11, 298, 53, 1204), (11, 305, 39, 1262), (11, 311, 69, 1271), (11, 319, 35, 1284), (0, 22, 225, 388), (0, 40, 1, 391), (0, 44, 223, 884), (0, 50, 7, 929), (1, 43, 10, 1022), (1, 51, 12, 1027), (1, 58, 17, 1088), (1, 64, 35, 1068), (1, 70, 16, 1072), (1, 74, 226, 1026), (1, 115, 68, 1031), (1, 119, 14, 1035), (1, 122, 41, 1039), (1, 125, 40, 1056), (1, 128, 15, 1060), (1, 132, 13, 1064), (1, 135, 44, 1076), (1, 141, 38, 1077), (1, 144, 46, 1081), (1, 148, 5, 1082), (1, 152, 49, 1083), (1, 164, 18, 1092), (1, 167, 2, 1105), (1, 170, 19, 1106), (1, 175, 37, 1096), (1, 178, 43, 1100), (1, 181, 29, 1110), (1, 184, 70, 1111), (2, 25, 21, 1187), (2, 29, 22, 1191), (3, 61, 36, 1052), (3, 65, 31, 1047), (3, 69, 39, 1043), (3, 73, 42, 1048), (3, 76, 29, 1104), (4, 30, 5, 924), (4, 36, 8, 925), (4, 40, 45, 933), (4, 51, 34, 937), (4, 57, 47, 950), (4, 67, 30, 958), (4, 80, 225, 954), (4, 85, 31, 962), (4, 88, 224, 955), (4, 92, 4, 976), (4, 95, 223, 980), (4, 107, 48, 1087), (5, 73, 40, 1180), (5, 77, 42, 1181), (5, 80, 41, 1182), (5, 87, 20, 1183), (5, 91, 226, 1194), (5, 100, 29, 1195), (5, 104, 51, 1196), (5, 108, 70, 1200), (5, 112, 52, 1201), (5, 119, 35, 1209), (5, 123, 54, 1210), (5, 126, 58, 1232), (5, 130, 225, 1231), (5, 135, 37, 1214), (5, 144, 43, 1215), (5, 147, 55, 1216), (5, 156, 223, 1220), (5, 162, 56, 1222), (5, 171, 57, 1226), (5, 178, 22, 1230), (5, 182, 38, 1236), (5, 185, 59, 1237), (5, 188, 23, 1241), (5, 191, 2, 1245), (5, 195, 44, 1246), (5, 201, 46, 1247), (5, 205, 49, 1248), (6, 33, 225, 1136), (6, 43, 226, 1137), (6, 49, 61, 1138), (6, 57, 62, 1142), (6, 61, 45, 1146), (6, 73, 5, 1148), (6, 82, 8, 1149), (6, 85, 46, 1150), (6, 89, 49, 1151), (6, 92, 63, 1152), (6, 95, 29, 1156), (6, 98, 64, 1157), (6, 102, 65, 1162), (6, 106, 31, 1161), (6, 109, 3, 1166), (7, 25, 226, 317), (7, 31, 25, 835), (7, 48, 67, 1275), (8, 36, 71, 902), (8, 40, 3, 906), (8, 46, 6, 910), (8, 50, 223, 911), (9, 30, 72, 189), (9, 41, 225, 745), (9, 58, 75, 746), (9, 67, 76, 750), (9, 71, 77, 754), (9, 75, 78, 757), (9, 78, 79, 760), (9, 85, 80, 772), (9, 88, 82, 802), (10, 29, 24, 740), (10, 39, 74, 741), (10, 48, 86, 764), (10, 52, 84, 827), (10, 65, 80, 780), (10, 69, 82, 768), (10, 75, 87, 776), (10, 78, 88, 803), (10, 81, 89, 807), (10, 84, 93, 823), (10, 87, 75, 781), (10, 93, 91, 782), (10, 100, 81, 794), (10, 103, 83, 798), (10, 116, 92, 811), (10, 123, 90, 815), (10, 126, 33, 790), (10, 130, 34, 819), (10, 133, 32, 786), (10, 154, 95, 1002), (12, 10, 131, 1393), (12, 151, 136, 1424), (12, 154, 137, 1632), (12, 167, 138, 1636), (12, 171, 139, 1639), (12, 187, 143, 1697), (12, 190, 141, 1654), (12, 193, 140, 1628), (12, 196, 134, 1674), (12, 203, 145, 1662), (12, 207, 147, 1666), (12, 214, 146, 1670), (12, 218, 142, 1646), (12, 222, 152, 1650), (12, 225, 153, 1677), (12, 228, 154, 1681), (12, 231, 150, 1689), (12, 234, 149, 1658), (12, 237, 148, 1685), (12, 240, 133, 1624), (12, 246, 151, 1642), (12, 249, 144, 1693), (12, 252, 161, 1737), (12, 255, 160, 1741), (12, 258, 157, 1709), (12, 261, 129, 1713), (12, 265, 158, 1721), (12, 268, 159, 1729), (12, 271, 162, 1733), (12, 275, 163, 1745), (12, 278, 167, 1753), (12, 281, 135, 1757), (12, 284, 171, 1777), (12, 287, 168, 1769), (12, 290, 172, 1773), (12, 294, 174, 1790), (12, 309, 175, 1785), (12, 316, 181, 1822), (12, 325, 178, 1802), (12, 328, 179, 1810), (12, 331, 180, 1818), (12, 340, 189, 1842), (12, 343, 192, 1886), (12, 349, 197, 1866), (12, 352, 196, 1870), (12, 367, 201, 1858), (12, 376, 195, 1882), (12, 379, 193, 1890), (12, 382, 199, 1894), (12, 386, 198, 1862), (12, 389, 194, 1874), (12, 392, 182, 1878), (12, 395, 200, 1854), (12, 401, 206, 1914), (12, 404, 205, 1910), (12, 413, 208, 1938), (12, 419, 209, 1942), (12, 422, 210, 1930), (12, 426, 211, 1934), (12, 429, 212, 1945), (12, 432, 214, 1922), (12, 435, 213, 1926)]
theorem mlx_ok : mlx.all (fun q => atb q.2.2.2 (.methodLink (cR q.1) q.2.1 (mdY q.2.2.1))) = true := by decide +kernel
def acx : List (Nat × Nat × Nat) := [(11, 286, 1167), (3, 55, 839), (6, 67, 1147), (7, 42, 1010)]
theorem acx_ok : acx.all (fun q => atb q.2.2 (.methodLink (cR q.1) q.2.1 arraycopyName)) = true := by decide +kernel
theorem acn_ok : atb 841 (.native arraycopyName) = true ∧ atb 840 (.static arraycopyName) = true ∧ atb 120 (.initialized "java/lang/System") = true := by decide +kernel
def cox : List (Nat × Nat × Int × Nat) := [(11, 304, 500000000, 1253), (4, 91, 500000000, 975), (5, 118, 500000000, 1208), (5, 161, 1000000, 1221), (8, 35, 500000000, 901), (12, 293, 100000000, 1789), (13, 265, 1431655765, 861), (13, 266, 858993459, 862), (13, 267, 252645135, 863)]
theorem cox_ok : cox.all (fun q => atb q.2.2.2 (.constant (cR q.1) q.2.1 (Int32.ofInt q.2.2.1))) = true := by decide +kernel
def clx : List (Nat × Nat × Int × Nat) := [(12, 117, 1903518073, 1407), (12, 119, 1869636974, 1408), (12, 121, 7103847, 1409), (12, 123, 1819239275, 1410), (12, 125, 422541682533, 1411), (12, 127, 418497262196, 1412), (12, 129, 1918985844, 1413), (12, 131, 1802399604, 1414), (12, 133, 1752132708, 1415), (12, 135, 1953854062, 1416), (12, 137, 1818584692, 1417), (12, 139, 491394656372, 1418), (12, 141, 1651471464, 1419), (12, 143, 7300710, 1420), (12, 145, 28526, 1421), (12, 147, 495672977012, 1422), (12, 149, 26479, 1423)]
theorem clx_ok : clx.all (fun q => atb q.2.2.2 (.constantLong (cR q.1) q.2.1 (Int64.ofInt q.2.2.1))) = true := by decide +kernel
def mdx : List (Nat × Bool × Nat × Nat × Nat) := [(387, true, 385, 386, 110), (394, true, 393, 0, 110), (871, true, 869, 870, 110), (909, true, 907, 908, 110), (979, true, 977, 978, 110), (879, true, 877, 878, 110), (883, true, 881, 882, 110), (932, true, 931, 13, 110), (928, true, 926, 927, 110), (1021, true, 1019, 1020, 115), (1025, true, 1024, 16, 115), (1119, true, 1117, 1118, 115), (1030, true, 1029, 17, 115), (1067, true, 1066, 21, 115), (1038, true, 1037, 18, 115), (1063, true, 1062, 20, 115), (1075, true, 1074, 22, 115), (1091, true, 1090, 23, 115), (1095, true, 1094, 24, 115), (1109, true, 1108, 25, 115), (1186, true, 1184, 1185, 118), (1190, true, 1189, 33, 118), (1193, false, 1192, 0, 118), (1244, true, 1242, 1243, 118), (250, true, 248, 249, 108), (838, true, 836, 837, 108), (892, true, 890, 891, 108), (945, true, 943, 944, 108), (857, true, 855, 856, 108), (896, true, 894, 895, 108), (961, true, 959, 960, 108), (965, true, 963, 964, 108), (789, true, 787, 788, 108), (793, true, 791, 792, 108), (822, true, 820, 821, 108), (1071, true, 1069, 1070, 108), (1055, true, 1054, 19, 108), (1099, true, 1097, 1098, 108), (1080, true, 1078, 1079, 108), (1046, true, 1044, 1045, 108), (1059, true, 1057, 1058, 108), (1042, true, 1040, 1041, 108), (1051, true, 1049, 1050, 108), (1103, true, 1101, 1102, 108), (923, true, 921, 922, 113), (936, true, 934, 935, 113), (949, true, 947, 948, 113), (953, true, 952, 14, 113), (974, true, 972, 973, 113), (1086, true, 1084, 1085, 113), (1179, true, 1177, 1178, 117), (1199, true, 1198, 34, 117), (1203, false, 1202, 0, 117), (1207, true, 1205, 1206, 117), (1213, true, 1212, 35, 117), (1219, true, 1218, 36, 117), (1225, true, 1224, 37, 117), (1229, true, 1228, 38, 117), (1235, true, 1234, 39, 117), (1240, true, 1239, 40, 117), (1135, true, 1133, 1134, 116), (1141, true, 1140, 27, 116), (1145, true, 1144, 28, 116), (1155, true, 1154, 29, 116), (1160, true, 1159, 30, 116), (1165, true, 1164, 31, 116), (834, true, 832, 833, 107), (1009, true, 1007, 1008, 107), (1034, true, 1032, 1033, 107), (1274, true, 1272, 1273, 107), (900, true, 898, 899, 114), (905, true, 904, 12, 114), (191, false, 190, 0, 102), (727, true, 725, 726, 102), (744, true, 742, 743, 102), (749, true, 747, 748, 102), (753, true, 752, 1, 102), (756, false, 755, 0, 102), (759, false, 758, 0, 102), (763, true, 762, 2, 102), (775, true, 773, 774, 102), (797, true, 795, 796, 102), (771, true, 769, 770, 102), (801, true, 799, 800, 102), (830, true, 828, 829, 102), (739, true, 737, 738, 112), (767, true, 766, 3, 112), (779, true, 778, 4, 112), (806, true, 805, 6, 112), (810, true, 809, 7, 112), (818, true, 817, 9, 112), (785, true, 784, 5, 112), (814, true, 813, 8, 112), (826, true, 825, 10, 112), (1001, true, 999, 1000, 112), (1005, true, 1004, 15, 112), (723, true, 721, 722, 101), (731, true, 729, 730, 101), (735, true, 733, 734, 101), (845, true, 843, 844, 101), (849, true, 847, 848, 101), (853, true, 852, 11, 101), (867, true, 865, 866, 101), (875, true, 873, 874, 101), (888, true, 886, 887, 101), (915, true, 913, 914, 101), (919, true, 917, 918, 101), (941, true, 939, 940, 101), (969, true, 967, 968, 101), (984, true, 982, 983, 101), (988, true, 986, 987, 101), (993, true, 991, 992, 101), (997, true, 995, 996, 101), (1014, true, 1012, 1013, 101), (1115, true, 1113, 1114, 101), (1123, true, 1121, 1122, 101), (1127, true, 1125, 1126, 101), (1131, true, 1130, 26, 101), (1171, true, 1169, 1170, 101), (1252, true, 1250, 1251, 101), (1257, true, 1255, 1256, 101), (1261, true, 1259, 1260, 101), (1266, true, 1264, 1265, 101), (1175, true, 1174, 32, 101), (1017, false, 1016, 0, 101), (1270, true, 1268, 1269, 101), (1279, true, 1277, 1278, 101), (1283, true, 1281, 1282, 101), (1388, true, 1386, 1387, 119), (1716, true, 1715, 62, 119), (1392, true, 1390, 1391, 119), (1397, true, 1395, 42, 119), (1401, true, 1399, 1400, 119), (1627, true, 1626, 44, 119), (1676, false, 1675, 0, 119), (1760, true, 1759, 70, 119), (1427, true, 1426, 43, 119), (1635, true, 1634, 46, 119), (1638, false, 1637, 0, 119), (1641, false, 1640, 0, 119), (1631, true, 1630, 45, 119), (1657, true, 1656, 50, 119), (1649, true, 1648, 48, 119), (1700, true, 1699, 60, 119), (1696, true, 1695, 59, 119), (1665, true, 1664, 52, 119), (1673, true, 1672, 54, 119), (1669, true, 1668, 53, 119), (1688, true, 1687, 57, 119), (1661, true, 1660, 51, 119), (1692, true, 1691, 58, 119), (1645, true, 1644, 47, 119), (1653, true, 1652, 49, 119), (1680, true, 1679, 55, 119), (1684, true, 1683, 56, 119), (1623, true, 1621, 1622, 119), (1704, true, 1702, 1703, 119), (1712, true, 1711, 61, 119), (1724, true, 1723, 63, 119), (1732, true, 1731, 64, 119), (1744, true, 1743, 67, 119), (1740, true, 1739, 66, 119), (1736, true, 1735, 65, 119), (1748, true, 1747, 68, 119), (1708, true, 1706, 1707, 119), (1720, true, 1718, 1719, 119), (1728, true, 1726, 1727, 119), (1756, true, 1755, 69, 119), (1772, true, 1771, 71, 119), (1752, true, 1750, 1751, 119), (1764, true, 1762, 1763, 119), (1780, true, 1779, 73, 119), (1776, true, 1775, 72, 119), (1768, true, 1766, 1767, 119), (1793, true, 1792, 75, 119), (1788, true, 1787, 74, 119), (1784, true, 1782, 1783, 119), (1797, true, 1795, 1796, 119), (1805, true, 1804, 76, 119), (1813, true, 1812, 77, 119), (1821, true, 1820, 78, 119), (1825, true, 1824, 79, 119), (1881, true, 1880, 87, 119), (1801, true, 1799, 1800, 119), (1809, true, 1807, 1808, 119), (1817, true, 1815, 1816, 119), (1829, true, 1827, 1828, 119), (1833, true, 1831, 1832, 119), (1837, true, 1835, 1836, 119), (1845, true, 1844, 80, 119), (1841, true, 1839, 1840, 119), (1849, true, 1847, 1848, 119), (1889, true, 1888, 89, 119), (1893, true, 1892, 90, 119), (1877, true, 1876, 86, 119), (1885, true, 1884, 88, 119), (1873, true, 1872, 85, 119), (1869, true, 1868, 84, 119), (1865, true, 1864, 83, 119), (1897, true, 1896, 91, 119), (1857, true, 1856, 81, 119), (1861, true, 1860, 82, 119), (1853, true, 1851, 1852, 119), (1901, true, 1899, 1900, 119), (1905, true, 1903, 1904, 119), (1913, true, 1912, 92, 119), (1917, true, 1916, 93, 119), (1909, true, 1907, 1908, 119), (1941, true, 1940, 98, 119), (1944, false, 1943, 0, 119), (1933, true, 1932, 96, 119), (1937, true, 1936, 97, 119), (1948, true, 1947, 99, 119), (1929, true, 1928, 95, 119), (1925, true, 1924, 94, 119), (1921, true, 1919, 1920, 119), (1952, true, 1950, 1951, 119), (1956, true, 1954, 1955, 119), (1960, true, 1958, 1959, 119), (1964, true, 1962, 1963, 119), (1968, true, 1966, 1967, 119), (1972, true, 1970, 1971, 119), (1976, true, 1974, 1975, 119), (860, false, 859, 0, 125), (957, false, 956, 0, 111), (390, false, 389, 0, 111), (319, false, 318, 0, 109)]
def mdq (z : Nat) : Nat × Bool × Nat × Nat × Nat := mdx.getD z (0, false, 0, 0, 0)
def mdOk (z : Nat) : Bool := (if (mdq z).2.1 then atb (mdq z).2.2.1 (.instanceMethod (mdY z)) && atb (mdq z).2.2.2.1 (.selects (mdY z).cls (mdY z) (mdY z)) else atb (mdq z).2.2.1 (.static (mdY z))) && atb (mdq z).2.2.2.2 (.initialized (mdY z).cls) && decide ((mdY z).cls ≠ "java/lang/invoke/MethodHandle" ∧ (mdY z).cls ≠ "java/lang/invoke/VarHandle") && plainFor (mdY z) && decide ((mdY z).cls = cR (mdO z))
def mdP (z : Nat) : Prop := lw_tbl[(mdq z).1]? = some (.code (mdY z) (mdB z) (mdL z) (mdR z))
set_option maxRecDepth 100000 in
theorem cw_0 : mdP 0 := rfl
set_option maxRecDepth 100000 in
theorem cw_1 : mdP 1 := rfl
set_option maxRecDepth 100000 in
theorem cw_2 : mdP 2 := rfl
set_option maxRecDepth 100000 in
theorem cw_3 : mdP 3 := rfl
set_option maxRecDepth 100000 in
theorem cw_4 : mdP 4 := rfl
set_option maxRecDepth 100000 in
theorem cw_5 : mdP 5 := rfl
set_option maxRecDepth 100000 in
theorem cw_6 : mdP 6 := rfl
set_option maxRecDepth 100000 in
theorem cw_7 : mdP 7 := rfl
set_option maxRecDepth 100000 in
theorem cw_8 : mdP 8 := rfl
set_option maxRecDepth 100000 in
theorem cw_9 : mdP 9 := rfl
set_option maxRecDepth 100000 in
theorem cw_10 : mdP 10 := rfl
set_option maxRecDepth 100000 in
theorem cw_11 : mdP 11 := rfl
set_option maxRecDepth 100000 in
theorem cw_12 : mdP 12 := rfl
set_option maxRecDepth 100000 in
theorem cw_13 : mdP 13 := rfl
set_option maxRecDepth 100000 in
theorem cw_14 : mdP 14 := rfl
set_option maxRecDepth 100000 in
theorem cw_15 : mdP 15 := rfl
set_option maxRecDepth 100000 in
theorem cw_16 : mdP 16 := rfl
set_option maxRecDepth 100000 in
theorem cw_17 : mdP 17 := rfl
set_option maxRecDepth 100000 in
theorem cw_18 : mdP 18 := rfl
set_option maxRecDepth 100000 in
theorem cw_19 : mdP 19 := rfl
set_option maxRecDepth 100000 in
theorem cw_20 : mdP 20 := rfl
set_option maxRecDepth 100000 in
theorem cw_21 : mdP 21 := rfl
set_option maxRecDepth 100000 in
theorem cw_22 : mdP 22 := rfl
set_option maxRecDepth 100000 in
theorem cw_23 : mdP 23 := rfl
set_option maxRecDepth 100000 in
theorem cw_24 : mdP 24 := rfl
set_option maxRecDepth 100000 in
theorem cw_25 : mdP 25 := rfl
set_option maxRecDepth 100000 in
theorem cw_26 : mdP 26 := rfl
set_option maxRecDepth 100000 in
theorem cw_27 : mdP 27 := rfl
set_option maxRecDepth 100000 in
theorem cw_28 : mdP 28 := rfl
set_option maxRecDepth 100000 in
theorem cw_29 : mdP 29 := rfl
set_option maxRecDepth 100000 in
theorem cw_30 : mdP 30 := rfl
set_option maxRecDepth 100000 in
theorem cw_31 : mdP 31 := rfl
set_option maxRecDepth 100000 in
theorem cw_32 : mdP 32 := rfl
set_option maxRecDepth 100000 in
theorem cw_33 : mdP 33 := rfl
set_option maxRecDepth 100000 in
theorem cw_34 : mdP 34 := rfl
set_option maxRecDepth 100000 in
theorem cw_35 : mdP 35 := rfl
set_option maxRecDepth 100000 in
theorem cw_36 : mdP 36 := rfl
set_option maxRecDepth 100000 in
theorem cw_37 : mdP 37 := rfl
set_option maxRecDepth 100000 in
theorem cw_38 : mdP 38 := rfl
set_option maxRecDepth 100000 in
theorem cw_39 : mdP 39 := rfl
set_option maxRecDepth 100000 in
theorem cw_40 : mdP 40 := rfl
set_option maxRecDepth 100000 in
theorem cw_41 : mdP 41 := rfl
set_option maxRecDepth 100000 in
theorem cw_42 : mdP 42 := rfl
set_option maxRecDepth 100000 in
theorem cw_43 : mdP 43 := rfl
set_option maxRecDepth 100000 in
theorem cw_44 : mdP 44 := rfl
set_option maxRecDepth 100000 in
theorem cw_45 : mdP 45 := rfl
set_option maxRecDepth 100000 in
theorem cw_46 : mdP 46 := rfl
set_option maxRecDepth 100000 in
theorem cw_47 : mdP 47 := rfl
set_option maxRecDepth 100000 in
theorem cw_48 : mdP 48 := rfl
set_option maxRecDepth 100000 in
theorem cw_49 : mdP 49 := rfl
set_option maxRecDepth 100000 in
theorem cw_50 : mdP 50 := rfl
set_option maxRecDepth 100000 in
theorem cw_51 : mdP 51 := rfl
set_option maxRecDepth 100000 in
theorem cw_52 : mdP 52 := rfl
set_option maxRecDepth 100000 in
theorem cw_53 : mdP 53 := rfl
set_option maxRecDepth 100000 in
theorem cw_54 : mdP 54 := rfl
set_option maxRecDepth 100000 in
theorem cw_55 : mdP 55 := rfl
set_option maxRecDepth 100000 in
theorem cw_56 : mdP 56 := rfl
set_option maxRecDepth 100000 in
theorem cw_57 : mdP 57 := rfl
set_option maxRecDepth 100000 in
theorem cw_58 : mdP 58 := rfl
set_option maxRecDepth 100000 in
theorem cw_59 : mdP 59 := rfl
set_option maxRecDepth 100000 in
theorem cw_60 : mdP 60 := rfl
set_option maxRecDepth 100000 in
theorem cw_61 : mdP 61 := rfl
set_option maxRecDepth 100000 in
theorem cw_62 : mdP 62 := rfl
set_option maxRecDepth 100000 in
theorem cw_63 : mdP 63 := rfl
set_option maxRecDepth 100000 in
theorem cw_64 : mdP 64 := rfl
set_option maxRecDepth 100000 in
theorem cw_65 : mdP 65 := rfl
set_option maxRecDepth 100000 in
theorem cw_66 : mdP 66 := rfl
set_option maxRecDepth 100000 in
theorem cw_67 : mdP 67 := rfl
set_option maxRecDepth 100000 in
theorem cw_68 : mdP 68 := rfl
set_option maxRecDepth 100000 in
theorem cw_69 : mdP 69 := rfl
set_option maxRecDepth 100000 in
theorem cw_70 : mdP 70 := rfl
set_option maxRecDepth 100000 in
theorem cw_71 : mdP 71 := rfl
set_option maxRecDepth 100000 in
theorem cw_72 : mdP 72 := rfl
set_option maxRecDepth 100000 in
theorem cw_73 : mdP 73 := rfl
set_option maxRecDepth 100000 in
theorem cw_74 : mdP 74 := rfl
set_option maxRecDepth 100000 in
theorem cw_75 : mdP 75 := rfl
set_option maxRecDepth 100000 in
theorem cw_76 : mdP 76 := rfl
set_option maxRecDepth 100000 in
theorem cw_77 : mdP 77 := rfl
set_option maxRecDepth 100000 in
theorem cw_78 : mdP 78 := rfl
set_option maxRecDepth 100000 in
theorem cw_79 : mdP 79 := rfl
set_option maxRecDepth 100000 in
theorem cw_80 : mdP 80 := rfl
set_option maxRecDepth 100000 in
theorem cw_81 : mdP 81 := rfl
set_option maxRecDepth 100000 in
theorem cw_82 : mdP 82 := rfl
set_option maxRecDepth 100000 in
theorem cw_83 : mdP 83 := rfl
set_option maxRecDepth 100000 in
theorem cw_84 : mdP 84 := rfl
set_option maxRecDepth 100000 in
theorem cw_85 : mdP 85 := rfl
set_option maxRecDepth 100000 in
theorem cw_86 : mdP 86 := rfl
set_option maxRecDepth 100000 in
theorem cw_87 : mdP 87 := rfl
set_option maxRecDepth 100000 in
theorem cw_88 : mdP 88 := rfl
set_option maxRecDepth 100000 in
theorem cw_89 : mdP 89 := rfl
set_option maxRecDepth 100000 in
theorem cw_90 : mdP 90 := rfl
set_option maxRecDepth 100000 in
theorem cw_91 : mdP 91 := rfl
set_option maxRecDepth 100000 in
theorem cw_92 : mdP 92 := rfl
set_option maxRecDepth 100000 in
theorem cw_93 : mdP 93 := rfl
set_option maxRecDepth 100000 in
theorem cw_94 : mdP 94 := rfl
set_option maxRecDepth 100000 in
theorem cw_95 : mdP 95 := rfl
set_option maxRecDepth 100000 in
theorem cw_96 : mdP 96 := rfl
set_option maxRecDepth 100000 in
theorem cw_97 : mdP 97 := rfl
set_option maxRecDepth 100000 in
theorem cw_98 : mdP 98 := rfl
set_option maxRecDepth 100000 in
theorem cw_99 : mdP 99 := rfl
set_option maxRecDepth 100000 in
theorem cw_100 : mdP 100 := rfl
set_option maxRecDepth 100000 in
theorem cw_101 : mdP 101 := rfl
set_option maxRecDepth 100000 in
theorem cw_102 : mdP 102 := rfl
set_option maxRecDepth 100000 in
theorem cw_103 : mdP 103 := rfl
set_option maxRecDepth 100000 in
theorem cw_104 : mdP 104 := rfl
set_option maxRecDepth 100000 in
theorem cw_105 : mdP 105 := rfl
set_option maxRecDepth 100000 in
theorem cw_106 : mdP 106 := rfl
set_option maxRecDepth 100000 in
theorem cw_107 : mdP 107 := rfl
set_option maxRecDepth 100000 in
theorem cw_108 : mdP 108 := rfl
set_option maxRecDepth 100000 in
theorem cw_109 : mdP 109 := rfl
set_option maxRecDepth 100000 in
theorem cw_110 : mdP 110 := rfl
set_option maxRecDepth 100000 in
theorem cw_111 : mdP 111 := rfl
set_option maxRecDepth 100000 in
theorem cw_112 : mdP 112 := rfl
set_option maxRecDepth 100000 in
theorem cw_113 : mdP 113 := rfl
set_option maxRecDepth 100000 in
theorem cw_114 : mdP 114 := rfl
set_option maxRecDepth 100000 in
theorem cw_115 : mdP 115 := rfl
set_option maxRecDepth 100000 in
theorem cw_116 : mdP 116 := rfl
set_option maxRecDepth 100000 in
theorem cw_117 : mdP 117 := rfl
set_option maxRecDepth 100000 in
theorem cw_118 : mdP 118 := rfl
set_option maxRecDepth 100000 in
theorem cw_119 : mdP 119 := rfl
set_option maxRecDepth 100000 in
theorem cw_120 : mdP 120 := rfl
set_option maxRecDepth 100000 in
theorem cw_121 : mdP 121 := rfl
set_option maxRecDepth 100000 in
theorem cw_122 : mdP 122 := rfl
set_option maxRecDepth 100000 in
theorem cw_123 : mdP 123 := rfl
set_option maxRecDepth 100000 in
theorem cw_124 : mdP 124 := rfl
set_option maxRecDepth 100000 in
theorem cw_125 : mdP 125 := rfl
set_option maxRecDepth 100000 in
theorem cw_126 : mdP 126 := rfl
set_option maxRecDepth 100000 in
theorem cw_127 : mdP 127 := rfl
set_option maxRecDepth 100000 in
theorem cw_128 : mdP 128 := rfl
set_option maxRecDepth 100000 in
theorem cw_129 : mdP 129 := rfl
set_option maxRecDepth 100000 in
theorem cw_130 : mdP 130 := rfl
set_option maxRecDepth 100000 in
theorem cw_131 : mdP 131 := rfl
set_option maxRecDepth 100000 in
theorem cw_132 : mdP 132 := rfl
set_option maxRecDepth 100000 in
theorem cw_133 : mdP 133 := rfl
set_option maxRecDepth 100000 in
theorem cw_134 : mdP 134 := rfl
set_option maxRecDepth 100000 in
theorem cw_135 : mdP 135 := rfl
set_option maxRecDepth 100000 in
theorem cw_136 : mdP 136 := rfl
set_option maxRecDepth 100000 in
theorem cw_137 : mdP 137 := rfl
set_option maxRecDepth 100000 in
theorem cw_138 : mdP 138 := rfl
set_option maxRecDepth 100000 in
theorem cw_139 : mdP 139 := rfl
set_option maxRecDepth 100000 in
theorem cw_140 : mdP 140 := rfl
set_option maxRecDepth 100000 in
theorem cw_141 : mdP 141 := rfl
set_option maxRecDepth 100000 in
theorem cw_142 : mdP 142 := rfl
set_option maxRecDepth 100000 in
theorem cw_143 : mdP 143 := rfl
set_option maxRecDepth 100000 in
theorem cw_144 : mdP 144 := rfl
set_option maxRecDepth 100000 in
theorem cw_145 : mdP 145 := rfl
set_option maxRecDepth 100000 in
theorem cw_146 : mdP 146 := rfl
set_option maxRecDepth 100000 in
theorem cw_147 : mdP 147 := rfl
set_option maxRecDepth 100000 in
theorem cw_148 : mdP 148 := rfl
set_option maxRecDepth 100000 in
theorem cw_149 : mdP 149 := rfl
set_option maxRecDepth 100000 in
theorem cw_150 : mdP 150 := rfl
set_option maxRecDepth 100000 in
theorem cw_151 : mdP 151 := rfl
set_option maxRecDepth 100000 in
theorem cw_152 : mdP 152 := rfl
set_option maxRecDepth 100000 in
theorem cw_153 : mdP 153 := rfl
set_option maxRecDepth 100000 in
theorem cw_154 : mdP 154 := rfl
set_option maxRecDepth 100000 in
theorem cw_155 : mdP 155 := rfl
set_option maxRecDepth 100000 in
theorem cw_156 : mdP 156 := rfl
set_option maxRecDepth 100000 in
theorem cw_157 : mdP 157 := rfl
set_option maxRecDepth 100000 in
theorem cw_158 : mdP 158 := rfl
set_option maxRecDepth 100000 in
theorem cw_159 : mdP 159 := rfl
set_option maxRecDepth 100000 in
theorem cw_160 : mdP 160 := rfl
set_option maxRecDepth 100000 in
theorem cw_161 : mdP 161 := rfl
set_option maxRecDepth 100000 in
theorem cw_162 : mdP 162 := rfl
set_option maxRecDepth 100000 in
theorem cw_163 : mdP 163 := rfl
set_option maxRecDepth 100000 in
theorem cw_164 : mdP 164 := rfl
set_option maxRecDepth 100000 in
theorem cw_165 : mdP 165 := rfl
set_option maxRecDepth 100000 in
theorem cw_166 : mdP 166 := rfl
set_option maxRecDepth 100000 in
theorem cw_167 : mdP 167 := rfl
set_option maxRecDepth 100000 in
theorem cw_168 : mdP 168 := rfl
set_option maxRecDepth 100000 in
theorem cw_169 : mdP 169 := rfl
set_option maxRecDepth 100000 in
theorem cw_170 : mdP 170 := rfl
set_option maxRecDepth 100000 in
theorem cw_171 : mdP 171 := rfl
set_option maxRecDepth 100000 in
theorem cw_172 : mdP 172 := rfl
set_option maxRecDepth 100000 in
theorem cw_173 : mdP 173 := rfl
set_option maxRecDepth 100000 in
theorem cw_174 : mdP 174 := rfl
set_option maxRecDepth 100000 in
theorem cw_175 : mdP 175 := rfl
set_option maxRecDepth 100000 in
theorem cw_176 : mdP 176 := rfl
set_option maxRecDepth 100000 in
theorem cw_177 : mdP 177 := rfl
set_option maxRecDepth 100000 in
theorem cw_178 : mdP 178 := rfl
set_option maxRecDepth 100000 in
theorem cw_179 : mdP 179 := rfl
set_option maxRecDepth 100000 in
theorem cw_180 : mdP 180 := rfl
set_option maxRecDepth 100000 in
theorem cw_181 : mdP 181 := rfl
set_option maxRecDepth 100000 in
theorem cw_182 : mdP 182 := rfl
set_option maxRecDepth 100000 in
theorem cw_183 : mdP 183 := rfl
set_option maxRecDepth 100000 in
theorem cw_184 : mdP 184 := rfl
set_option maxRecDepth 100000 in
theorem cw_185 : mdP 185 := rfl
set_option maxRecDepth 100000 in
theorem cw_186 : mdP 186 := rfl
set_option maxRecDepth 100000 in
theorem cw_187 : mdP 187 := rfl
set_option maxRecDepth 100000 in
theorem cw_188 : mdP 188 := rfl
set_option maxRecDepth 100000 in
theorem cw_189 : mdP 189 := rfl
set_option maxRecDepth 100000 in
theorem cw_190 : mdP 190 := rfl
set_option maxRecDepth 100000 in
theorem cw_191 : mdP 191 := rfl
set_option maxRecDepth 100000 in
theorem cw_192 : mdP 192 := rfl
set_option maxRecDepth 100000 in
theorem cw_193 : mdP 193 := rfl
set_option maxRecDepth 100000 in
theorem cw_194 : mdP 194 := rfl
set_option maxRecDepth 100000 in
theorem cw_195 : mdP 195 := rfl
set_option maxRecDepth 100000 in
theorem cw_196 : mdP 196 := rfl
set_option maxRecDepth 100000 in
theorem cw_197 : mdP 197 := rfl
set_option maxRecDepth 100000 in
theorem cw_198 : mdP 198 := rfl
set_option maxRecDepth 100000 in
theorem cw_199 : mdP 199 := rfl
set_option maxRecDepth 100000 in
theorem cw_200 : mdP 200 := rfl
set_option maxRecDepth 100000 in
theorem cw_201 : mdP 201 := rfl
set_option maxRecDepth 100000 in
theorem cw_202 : mdP 202 := rfl
set_option maxRecDepth 100000 in
theorem cw_203 : mdP 203 := rfl
set_option maxRecDepth 100000 in
theorem cw_204 : mdP 204 := rfl
set_option maxRecDepth 100000 in
theorem cw_205 : mdP 205 := rfl
set_option maxRecDepth 100000 in
theorem cw_206 : mdP 206 := rfl
set_option maxRecDepth 100000 in
theorem cw_207 : mdP 207 := rfl
set_option maxRecDepth 100000 in
theorem cw_208 : mdP 208 := rfl
set_option maxRecDepth 100000 in
theorem cw_209 : mdP 209 := rfl
set_option maxRecDepth 100000 in
theorem cw_210 : mdP 210 := rfl
set_option maxRecDepth 100000 in
theorem cw_211 : mdP 211 := rfl
set_option maxRecDepth 100000 in
theorem cw_212 : mdP 212 := rfl
set_option maxRecDepth 100000 in
theorem cw_213 : mdP 213 := rfl
set_option maxRecDepth 100000 in
theorem cw_214 : mdP 214 := rfl
set_option maxRecDepth 100000 in
theorem cw_215 : mdP 215 := rfl
set_option maxRecDepth 100000 in
theorem cw_216 : mdP 216 := rfl
set_option maxRecDepth 100000 in
theorem cw_217 : mdP 217 := rfl
set_option maxRecDepth 100000 in
theorem cw_218 : mdP 218 := rfl
set_option maxRecDepth 100000 in
theorem cw_219 : mdP 219 := rfl
set_option maxRecDepth 100000 in
theorem cw_220 : mdP 220 := rfl
set_option maxRecDepth 100000 in
theorem cw_221 : mdP 221 := rfl
set_option maxRecDepth 100000 in
theorem cw_222 : mdP 222 := rfl
set_option maxRecDepth 100000 in
theorem cw_223 : mdP 223 := rfl
set_option maxRecDepth 100000 in
theorem cw_224 : mdP 224 := rfl
set_option maxRecDepth 100000 in
theorem cw_225 : mdP 225 := rfl
set_option maxRecDepth 100000 in
theorem cw_226 : mdP 226 := rfl
theorem cwl_0 : ∀ z ∈ [0, 1, 2, 3, 4, 5, 6, 7, 8, 9, 10, 11, 12, 13, 14, 15, 16, 17, 18, 19, 20, 21, 22, 23, 24], mdP z := List.forall_mem_cons.mpr ⟨cw_0, List.forall_mem_cons.mpr ⟨cw_1, List.forall_mem_cons.mpr ⟨cw_2, List.forall_mem_cons.mpr ⟨cw_3, List.forall_mem_cons.mpr ⟨cw_4, List.forall_mem_cons.mpr ⟨cw_5, List.forall_mem_cons.mpr ⟨cw_6, List.forall_mem_cons.mpr ⟨cw_7, List.forall_mem_cons.mpr ⟨cw_8, List.forall_mem_cons.mpr ⟨cw_9, List.forall_mem_cons.mpr ⟨cw_10, List.forall_mem_cons.mpr ⟨cw_11, List.forall_mem_cons.mpr ⟨cw_12, List.forall_mem_cons.mpr ⟨cw_13, List.forall_mem_cons.mpr ⟨cw_14, List.forall_mem_cons.mpr ⟨cw_15, List.forall_mem_cons.mpr ⟨cw_16, List.forall_mem_cons.mpr ⟨cw_17, List.forall_mem_cons.mpr ⟨cw_18, List.forall_mem_cons.mpr ⟨cw_19, List.forall_mem_cons.mpr ⟨cw_20, List.forall_mem_cons.mpr ⟨cw_21, List.forall_mem_cons.mpr ⟨cw_22, List.forall_mem_cons.mpr ⟨cw_23, List.forall_mem_cons.mpr ⟨cw_24, fun _ h => absurd h List.not_mem_nil⟩⟩⟩⟩⟩⟩⟩⟩⟩⟩⟩⟩⟩⟩⟩⟩⟩⟩⟩⟩⟩⟩⟩⟩⟩
theorem mdOk_0 : ∀ z ∈ [0, 1, 2, 3, 4, 5, 6, 7, 8, 9, 10, 11, 12, 13, 14, 15, 16, 17, 18, 19, 20, 21, 22, 23, 24], mdOk z = true := by decide +kernel
theorem cwl_1 : ∀ z ∈ [25, 26, 27, 28, 29, 30, 31, 32, 33, 34, 35, 36, 37, 38, 39, 40, 41, 42, 43, 44, 45, 46, 47, 48, 49], mdP z := List.forall_mem_cons.mpr ⟨cw_25, List.forall_mem_cons.mpr ⟨cw_26, List.forall_mem_cons.mpr ⟨cw_27, List.forall_mem_cons.mpr ⟨cw_28, List.forall_mem_cons.mpr ⟨cw_29, List.forall_mem_cons.mpr ⟨cw_30, List.forall_mem_cons.mpr ⟨cw_31, List.forall_mem_cons.mpr ⟨cw_32, List.forall_mem_cons.mpr ⟨cw_33, List.forall_mem_cons.mpr ⟨cw_34, List.forall_mem_cons.mpr ⟨cw_35, List.forall_mem_cons.mpr ⟨cw_36, List.forall_mem_cons.mpr ⟨cw_37, List.forall_mem_cons.mpr ⟨cw_38, List.forall_mem_cons.mpr ⟨cw_39, List.forall_mem_cons.mpr ⟨cw_40, List.forall_mem_cons.mpr ⟨cw_41, List.forall_mem_cons.mpr ⟨cw_42, List.forall_mem_cons.mpr ⟨cw_43, List.forall_mem_cons.mpr ⟨cw_44, List.forall_mem_cons.mpr ⟨cw_45, List.forall_mem_cons.mpr ⟨cw_46, List.forall_mem_cons.mpr ⟨cw_47, List.forall_mem_cons.mpr ⟨cw_48, List.forall_mem_cons.mpr ⟨cw_49, fun _ h => absurd h List.not_mem_nil⟩⟩⟩⟩⟩⟩⟩⟩⟩⟩⟩⟩⟩⟩⟩⟩⟩⟩⟩⟩⟩⟩⟩⟩⟩
theorem mdOk_1 : ∀ z ∈ [25, 26, 27, 28, 29, 30, 31, 32, 33, 34, 35, 36, 37, 38, 39, 40, 41, 42, 43, 44, 45, 46, 47, 48, 49], mdOk z = true := by decide +kernel
theorem cwl_2 : ∀ z ∈ [50, 51, 52, 53, 54, 55, 56, 57, 58, 59, 60, 61, 62, 63, 64, 65, 66, 67, 68, 69, 70, 71, 72, 73, 74], mdP z := List.forall_mem_cons.mpr ⟨cw_50, List.forall_mem_cons.mpr ⟨cw_51, List.forall_mem_cons.mpr ⟨cw_52, List.forall_mem_cons.mpr ⟨cw_53, List.forall_mem_cons.mpr ⟨cw_54, List.forall_mem_cons.mpr ⟨cw_55, List.forall_mem_cons.mpr ⟨cw_56, List.forall_mem_cons.mpr ⟨cw_57, List.forall_mem_cons.mpr ⟨cw_58, List.forall_mem_cons.mpr ⟨cw_59, List.forall_mem_cons.mpr ⟨cw_60, List.forall_mem_cons.mpr ⟨cw_61, List.forall_mem_cons.mpr ⟨cw_62, List.forall_mem_cons.mpr ⟨cw_63, List.forall_mem_cons.mpr ⟨cw_64, List.forall_mem_cons.mpr ⟨cw_65, List.forall_mem_cons.mpr ⟨cw_66, List.forall_mem_cons.mpr ⟨cw_67, List.forall_mem_cons.mpr ⟨cw_68, List.forall_mem_cons.mpr ⟨cw_69, List.forall_mem_cons.mpr ⟨cw_70, List.forall_mem_cons.mpr ⟨cw_71, List.forall_mem_cons.mpr ⟨cw_72, List.forall_mem_cons.mpr ⟨cw_73, List.forall_mem_cons.mpr ⟨cw_74, fun _ h => absurd h List.not_mem_nil⟩⟩⟩⟩⟩⟩⟩⟩⟩⟩⟩⟩⟩⟩⟩⟩⟩⟩⟩⟩⟩⟩⟩⟩⟩
theorem mdOk_2 : ∀ z ∈ [50, 51, 52, 53, 54, 55, 56, 57, 58, 59, 60, 61, 62, 63, 64, 65, 66, 67, 68, 69, 70, 71, 72, 73, 74], mdOk z = true := by decide +kernel
theorem cwl_3 : ∀ z ∈ [75, 76, 77, 78, 79, 80, 81, 82, 83, 84, 85, 86, 87, 88, 89, 90, 91, 92, 93, 94, 95, 96, 97, 98, 99], mdP z := List.forall_mem_cons.mpr ⟨cw_75, List.forall_mem_cons.mpr ⟨cw_76, List.forall_mem_cons.mpr ⟨cw_77, List.forall_mem_cons.mpr ⟨cw_78, List.forall_mem_cons.mpr ⟨cw_79, List.forall_mem_cons.mpr ⟨cw_80, List.forall_mem_cons.mpr ⟨cw_81, List.forall_mem_cons.mpr ⟨cw_82, List.forall_mem_cons.mpr ⟨cw_83, List.forall_mem_cons.mpr ⟨cw_84, List.forall_mem_cons.mpr ⟨cw_85, List.forall_mem_cons.mpr ⟨cw_86, List.forall_mem_cons.mpr ⟨cw_87, List.forall_mem_cons.mpr ⟨cw_88, List.forall_mem_cons.mpr ⟨cw_89, List.forall_mem_cons.mpr ⟨cw_90, List.forall_mem_cons.mpr ⟨cw_91, List.forall_mem_cons.mpr ⟨cw_92, List.forall_mem_cons.mpr ⟨cw_93, List.forall_mem_cons.mpr ⟨cw_94, List.forall_mem_cons.mpr ⟨cw_95, List.forall_mem_cons.mpr ⟨cw_96, List.forall_mem_cons.mpr ⟨cw_97, List.forall_mem_cons.mpr ⟨cw_98, List.forall_mem_cons.mpr ⟨cw_99, fun _ h => absurd h List.not_mem_nil⟩⟩⟩⟩⟩⟩⟩⟩⟩⟩⟩⟩⟩⟩⟩⟩⟩⟩⟩⟩⟩⟩⟩⟩⟩
theorem mdOk_3 : ∀ z ∈ [75, 76, 77, 78, 79, 80, 81, 82, 83, 84, 85, 86, 87, 88, 89, 90, 91, 92, 93, 94, 95, 96, 97, 98, 99], mdOk z = true := by decide +kernel
theorem cwl_4 : ∀ z ∈ [100, 101, 102, 103, 104, 105, 106, 107, 108, 109, 110, 111, 112, 113, 114, 115, 116, 117, 118, 119, 120, 121, 122, 123, 124], mdP z := List.forall_mem_cons.mpr ⟨cw_100, List.forall_mem_cons.mpr ⟨cw_101, List.forall_mem_cons.mpr ⟨cw_102, List.forall_mem_cons.mpr ⟨cw_103, List.forall_mem_cons.mpr ⟨cw_104, List.forall_mem_cons.mpr ⟨cw_105, List.forall_mem_cons.mpr ⟨cw_106, List.forall_mem_cons.mpr ⟨cw_107, List.forall_mem_cons.mpr ⟨cw_108, List.forall_mem_cons.mpr ⟨cw_109, List.forall_mem_cons.mpr ⟨cw_110, List.forall_mem_cons.mpr ⟨cw_111, List.forall_mem_cons.mpr ⟨cw_112, List.forall_mem_cons.mpr ⟨cw_113, List.forall_mem_cons.mpr ⟨cw_114, List.forall_mem_cons.mpr ⟨cw_115, List.forall_mem_cons.mpr ⟨cw_116, List.forall_mem_cons.mpr ⟨cw_117, List.forall_mem_cons.mpr ⟨cw_118, List.forall_mem_cons.mpr ⟨cw_119, List.forall_mem_cons.mpr ⟨cw_120, List.forall_mem_cons.mpr ⟨cw_121, List.forall_mem_cons.mpr ⟨cw_122, List.forall_mem_cons.mpr ⟨cw_123, List.forall_mem_cons.mpr ⟨cw_124, fun _ h => absurd h List.not_mem_nil⟩⟩⟩⟩⟩⟩⟩⟩⟩⟩⟩⟩⟩⟩⟩⟩⟩⟩⟩⟩⟩⟩⟩⟩⟩
theorem mdOk_4 : ∀ z ∈ [100, 101, 102, 103, 104, 105, 106, 107, 108, 109, 110, 111, 112, 113, 114, 115, 116, 117, 118, 119, 120, 121, 122, 123, 124], mdOk z = true := by decide +kernel
theorem cwl_5 : ∀ z ∈ [125, 126, 127, 128, 129, 130, 131, 132, 133, 134, 135, 136, 137, 138, 139, 140, 141, 142, 143, 144, 145, 146, 147, 148, 149], mdP z := List.forall_mem_cons.mpr ⟨cw_125, List.forall_mem_cons.mpr ⟨cw_126, List.forall_mem_cons.mpr ⟨cw_127, List.forall_mem_cons.mpr ⟨cw_128, List.forall_mem_cons.mpr ⟨cw_129, List.forall_mem_cons.mpr ⟨cw_130, List.forall_mem_cons.mpr ⟨cw_131, List.forall_mem_cons.mpr ⟨cw_132, List.forall_mem_cons.mpr ⟨cw_133, List.forall_mem_cons.mpr ⟨cw_134, List.forall_mem_cons.mpr ⟨cw_135, List.forall_mem_cons.mpr ⟨cw_136, List.forall_mem_cons.mpr ⟨cw_137, List.forall_mem_cons.mpr ⟨cw_138, List.forall_mem_cons.mpr ⟨cw_139, List.forall_mem_cons.mpr ⟨cw_140, List.forall_mem_cons.mpr ⟨cw_141, List.forall_mem_cons.mpr ⟨cw_142, List.forall_mem_cons.mpr ⟨cw_143, List.forall_mem_cons.mpr ⟨cw_144, List.forall_mem_cons.mpr ⟨cw_145, List.forall_mem_cons.mpr ⟨cw_146, List.forall_mem_cons.mpr ⟨cw_147, List.forall_mem_cons.mpr ⟨cw_148, List.forall_mem_cons.mpr ⟨cw_149, fun _ h => absurd h List.not_mem_nil⟩⟩⟩⟩⟩⟩⟩⟩⟩⟩⟩⟩⟩⟩⟩⟩⟩⟩⟩⟩⟩⟩⟩⟩⟩
theorem mdOk_5 : ∀ z ∈ [125, 126, 127, 128, 129, 130, 131, 132, 133, 134, 135, 136, 137, 138, 139, 140, 141, 142, 143, 144, 145, 146, 147, 148, 149], mdOk z = true := by decide +kernel
theorem cwl_6 : ∀ z ∈ [150, 151, 152, 153, 154, 155, 156, 157, 158, 159, 160, 161, 162, 163, 164, 165, 166, 167, 168, 169, 170, 171, 172, 173, 174], mdP z := List.forall_mem_cons.mpr ⟨cw_150, List.forall_mem_cons.mpr ⟨cw_151, List.forall_mem_cons.mpr ⟨cw_152, List.forall_mem_cons.mpr ⟨cw_153, List.forall_mem_cons.mpr ⟨cw_154, List.forall_mem_cons.mpr ⟨cw_155, List.forall_mem_cons.mpr ⟨cw_156, List.forall_mem_cons.mpr ⟨cw_157, List.forall_mem_cons.mpr ⟨cw_158, List.forall_mem_cons.mpr ⟨cw_159, List.forall_mem_cons.mpr ⟨cw_160, List.forall_mem_cons.mpr ⟨cw_161, List.forall_mem_cons.mpr ⟨cw_162, List.forall_mem_cons.mpr ⟨cw_163, List.forall_mem_cons.mpr ⟨cw_164, List.forall_mem_cons.mpr ⟨cw_165, List.forall_mem_cons.mpr ⟨cw_166, List.forall_mem_cons.mpr ⟨cw_167, List.forall_mem_cons.mpr ⟨cw_168, List.forall_mem_cons.mpr ⟨cw_169, List.forall_mem_cons.mpr ⟨cw_170, List.forall_mem_cons.mpr ⟨cw_171, List.forall_mem_cons.mpr ⟨cw_172, List.forall_mem_cons.mpr ⟨cw_173, List.forall_mem_cons.mpr ⟨cw_174, fun _ h => absurd h List.not_mem_nil⟩⟩⟩⟩⟩⟩⟩⟩⟩⟩⟩⟩⟩⟩⟩⟩⟩⟩⟩⟩⟩⟩⟩⟩⟩
theorem mdOk_6 : ∀ z ∈ [150, 151, 152, 153, 154, 155, 156, 157, 158, 159, 160, 161, 162, 163, 164, 165, 166, 167, 168, 169, 170, 171, 172, 173, 174], mdOk z = true := by decide +kernel
theorem cwl_7 : ∀ z ∈ [175, 176, 177, 178, 179, 180, 181, 182, 183, 184, 185, 186, 187, 188, 189, 190, 191, 192, 193, 194, 195, 196, 197, 198, 199], mdP z := List.forall_mem_cons.mpr ⟨cw_175, List.forall_mem_cons.mpr ⟨cw_176, List.forall_mem_cons.mpr ⟨cw_177, List.forall_mem_cons.mpr ⟨cw_178, List.forall_mem_cons.mpr ⟨cw_179, List.forall_mem_cons.mpr ⟨cw_180, List.forall_mem_cons.mpr ⟨cw_181, List.forall_mem_cons.mpr ⟨cw_182, List.forall_mem_cons.mpr ⟨cw_183, List.forall_mem_cons.mpr ⟨cw_184, List.forall_mem_cons.mpr ⟨cw_185, List.forall_mem_cons.mpr ⟨cw_186, List.forall_mem_cons.mpr ⟨cw_187, List.forall_mem_cons.mpr ⟨cw_188, List.forall_mem_cons.mpr ⟨cw_189, List.forall_mem_cons.mpr ⟨cw_190, List.forall_mem_cons.mpr ⟨cw_191, List.forall_mem_cons.mpr ⟨cw_192, List.forall_mem_cons.mpr ⟨cw_193, List.forall_mem_cons.mpr ⟨cw_194, List.forall_mem_cons.mpr ⟨cw_195, List.forall_mem_cons.mpr ⟨cw_196, List.forall_mem_cons.mpr ⟨cw_197, List.forall_mem_cons.mpr ⟨cw_198, List.forall_mem_cons.mpr ⟨cw_199, fun _ h => absurd h List.not_mem_nil⟩⟩⟩⟩⟩⟩⟩⟩⟩⟩⟩⟩⟩⟩⟩⟩⟩⟩⟩⟩⟩⟩⟩⟩⟩
theorem mdOk_7 : ∀ z ∈ [175, 176, 177, 178, 179, 180, 181, 182, 183, 184, 185, 186, 187, 188, 189, 190, 191, 192, 193, 194, 195, 196, 197, 198, 199], mdOk z = true := by decide +kernel
theorem cwl_8 : ∀ z ∈ [200, 201, 202, 203, 204, 205, 206, 207, 208, 209, 210, 211, 212, 213, 214, 215, 216, 217, 218, 219, 220, 221, 222, 223, 224], mdP z := List.forall_mem_cons.mpr ⟨cw_200, List.forall_mem_cons.mpr ⟨cw_201, List.forall_mem_cons.mpr ⟨cw_202, List.forall_mem_cons.mpr ⟨cw_203, List.forall_mem_cons.mpr ⟨cw_204, List.forall_mem_cons.mpr ⟨cw_205, List.forall_mem_cons.mpr ⟨cw_206, List.forall_mem_cons.mpr ⟨cw_207, List.forall_mem_cons.mpr ⟨cw_208, List.forall_mem_cons.mpr ⟨cw_209, List.forall_mem_cons.mpr ⟨cw_210, List.forall_mem_cons.mpr ⟨cw_211, List.forall_mem_cons.mpr ⟨cw_212, List.forall_mem_cons.mpr ⟨cw_213, List.forall_mem_cons.mpr ⟨cw_214, List.forall_mem_cons.mpr ⟨cw_215, List.forall_mem_cons.mpr ⟨cw_216, List.forall_mem_cons.mpr ⟨cw_217, List.forall_mem_cons.mpr ⟨cw_218, List.forall_mem_cons.mpr ⟨cw_219, List.forall_mem_cons.mpr ⟨cw_220, List.forall_mem_cons.mpr ⟨cw_221, List.forall_mem_cons.mpr ⟨cw_222, List.forall_mem_cons.mpr ⟨cw_223, List.forall_mem_cons.mpr ⟨cw_224, fun _ h => absurd h List.not_mem_nil⟩⟩⟩⟩⟩⟩⟩⟩⟩⟩⟩⟩⟩⟩⟩⟩⟩⟩⟩⟩⟩⟩⟩⟩⟩
theorem mdOk_8 : ∀ z ∈ [200, 201, 202, 203, 204, 205, 206, 207, 208, 209, 210, 211, 212, 213, 214, 215, 216, 217, 218, 219, 220, 221, 222, 223, 224], mdOk z = true := by decide +kernel
theorem cwl_9 : ∀ z ∈ [225, 226], mdP z := List.forall_mem_cons.mpr ⟨cw_225, List.forall_mem_cons.mpr ⟨cw_226, fun _ h => absurd h List.not_mem_nil⟩⟩
theorem mdOk_9 : ∀ z ∈ [225, 226], mdOk z = true := by decide +kernel
theorem md_in {a n z : Nat} {l : List Nat} (hl : l = List.range' a n) (h1 : a ≤ z) (h2 : z < a + n) : z ∈ l := by rw [hl]; exact List.mem_range'_1.mpr ⟨h1, h2⟩
theorem md_all {z : Nat} (h : z < 227) : mdP z ∧ mdOk z = true := by
  by_cases q0 : z < 25
  · have hm := md_in (z := z) (a := 0) (n := 25) (l := [0, 1, 2, 3, 4, 5, 6, 7, 8, 9, 10, 11, 12, 13, 14, 15, 16, 17, 18, 19, 20, 21, 22, 23, 24]) rfl (by omega) (by omega)
    exact ⟨cwl_0 z hm, mdOk_0 z hm⟩
  by_cases q25 : z < 50
  · have hm := md_in (z := z) (a := 25) (n := 25) (l := [25, 26, 27, 28, 29, 30, 31, 32, 33, 34, 35, 36, 37, 38, 39, 40, 41, 42, 43, 44, 45, 46, 47, 48, 49]) rfl (by omega) (by omega)
    exact ⟨cwl_1 z hm, mdOk_1 z hm⟩
  by_cases q50 : z < 75
  · have hm := md_in (z := z) (a := 50) (n := 25) (l := [50, 51, 52, 53, 54, 55, 56, 57, 58, 59, 60, 61, 62, 63, 64, 65, 66, 67, 68, 69, 70, 71, 72, 73, 74]) rfl (by omega) (by omega)
    exact ⟨cwl_2 z hm, mdOk_2 z hm⟩
  by_cases q75 : z < 100
  · have hm := md_in (z := z) (a := 75) (n := 25) (l := [75, 76, 77, 78, 79, 80, 81, 82, 83, 84, 85, 86, 87, 88, 89, 90, 91, 92, 93, 94, 95, 96, 97, 98, 99]) rfl (by omega) (by omega)
    exact ⟨cwl_3 z hm, mdOk_3 z hm⟩
  by_cases q100 : z < 125
  · have hm := md_in (z := z) (a := 100) (n := 25) (l := [100, 101, 102, 103, 104, 105, 106, 107, 108, 109, 110, 111, 112, 113, 114, 115, 116, 117, 118, 119, 120, 121, 122, 123, 124]) rfl (by omega) (by omega)
    exact ⟨cwl_4 z hm, mdOk_4 z hm⟩
  by_cases q125 : z < 150
  · have hm := md_in (z := z) (a := 125) (n := 25) (l := [125, 126, 127, 128, 129, 130, 131, 132, 133, 134, 135, 136, 137, 138, 139, 140, 141, 142, 143, 144, 145, 146, 147, 148, 149]) rfl (by omega) (by omega)
    exact ⟨cwl_5 z hm, mdOk_5 z hm⟩
  by_cases q150 : z < 175
  · have hm := md_in (z := z) (a := 150) (n := 25) (l := [150, 151, 152, 153, 154, 155, 156, 157, 158, 159, 160, 161, 162, 163, 164, 165, 166, 167, 168, 169, 170, 171, 172, 173, 174]) rfl (by omega) (by omega)
    exact ⟨cwl_6 z hm, mdOk_6 z hm⟩
  by_cases q175 : z < 200
  · have hm := md_in (z := z) (a := 175) (n := 25) (l := [175, 176, 177, 178, 179, 180, 181, 182, 183, 184, 185, 186, 187, 188, 189, 190, 191, 192, 193, 194, 195, 196, 197, 198, 199]) rfl (by omega) (by omega)
    exact ⟨cwl_7 z hm, mdOk_7 z hm⟩
  by_cases q200 : z < 225
  · have hm := md_in (z := z) (a := 200) (n := 25) (l := [200, 201, 202, 203, 204, 205, 206, 207, 208, 209, 210, 211, 212, 213, 214, 215, 216, 217, 218, 219, 220, 221, 222, 223, 224]) rfl (by omega) (by omega)
    exact ⟨cwl_8 z hm, mdOk_8 z hm⟩
  by_cases q225 : z < 227
  · have hm := md_in (z := z) (a := 225) (n := 2) (l := [225, 226]) rfl (by omega) (by omega)
    exact ⟨cwl_9 z hm, mdOk_9 z hm⟩
  exact absurd h (by omega)
theorem iw_0 : ∀ w ∈ u_ws (cR 0) (cT 0) (cN 0), w ∈ gtb := by decide +kernel
theorem iw_1 : ∀ w ∈ u_ws (cR 1) (cT 1) (cN 1), w ∈ gtb := by decide +kernel
theorem iw_2 : ∀ w ∈ u_ws (cR 2) (cT 2) (cN 2), w ∈ gtb := by decide +kernel
theorem iw_3 : ∀ w ∈ u_ws (cR 3) (cT 3) (cN 3), w ∈ gtb := by decide +kernel
theorem iw_4 : ∀ w ∈ u_ws (cR 4) (cT 4) (cN 4), w ∈ gtb := by decide +kernel
theorem iw_5 : ∀ w ∈ u_ws (cR 5) (cT 5) (cN 5), w ∈ gtb := by decide +kernel
theorem iw_6 : ∀ w ∈ u_ws (cR 6) (cT 6) (cN 6), w ∈ gtb := by decide +kernel
theorem iw_7 : ∀ w ∈ u_ws (cR 7) (cT 7) (cN 7), w ∈ gtb := by decide +kernel
theorem iw_8 : ∀ w ∈ u_ws (cR 8) (cT 8) (cN 8), w ∈ gtb := by decide +kernel
theorem iw_9 : ∀ w ∈ u_ws (cR 9) (cT 9) (cN 9), w ∈ gtb := by decide +kernel
theorem iw_10 : ∀ w ∈ u_ws (cR 10) (cT 10) (cN 10), w ∈ gtb := by decide +kernel
theorem iw_11 : ∀ w ∈ u_ws (cR 11) (cT 11) (cN 11), w ∈ gtb := by decide +kernel
theorem iw_12 : ∀ w ∈ u_ws (cR 12) (cT 12) (cN 12), w ∈ gtb := by decide +kernel
