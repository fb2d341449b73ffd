set_option maxHeartbeats 4000000 in
set_option maxRecDepth 20000 in
theorem ggL_law_L_hasRead : GoodIn wsL_law wsL_hasRead := goodIn_ca (goodIn_r _ [1071, 176, 1072, 1073, 1074, 2, 1075, 454, 455, 402, 403, 404, 405, 189, 190, 20, 286, 406, 1229, 1230, 1231, 1232, 1247, 1248, 1249, 1250, 1193, 1194, 1195, 1196, 1216, 1217, 1218, 1219, 1220, 1221] rfl (by decide +kernel)) (goodIn_sub (fun _ h => List.mem_append_right _ h) (by decide +kernel))
set_option maxRecDepth 20000 in
theorem gL_law_L_hasRead : GoodIn wsL_law (va_wsS RL 276 yL_hasRead wsL_hasRead) := goodIn_app (goodIn_r _ [1069, 1070, 119] rfl (by decide +kernel)) ggL_law_L_hasRead
set_option maxHeartbeats 4000000 in
set_option maxRecDepth 20000 in
theorem ggL_law_X11_hasRead : GoodIn wsL_law wsX11_hasRead := goodIn_r _ [1079, 851, 852, 853, 5, 854, 150, 92, 416, 417, 418, 419, 215, 216, 217, 152, 153, 154, 155, 1197, 1198, 1199, 1200, 1201, 1202, 1203, 1204, 1205, 1206, 1256, 1257, 1258, 1259, 1260, 1261, 1262, 1263, 1264, 1265, 1266, 1267, 1268] rfl (by decide +kernel)
set_option maxRecDepth 20000 in
theorem gL_law_X11_hasRead : GoodIn wsL_law (wsV RL 278 RX11 yX11_hasRead wsX11_hasRead) := goodIn_app (goodIn_r _ [1076, 1077, 1078, 5] rfl (by decide +kernel)) ggL_law_X11_hasRead
set_option maxHeartbeats 4000000 in
set_option maxRecDepth 20000 in
theorem ggL_law_X8_meanWindow : GoodIn wsL_law wsX8_meanWindow := goodIn_r _ [1083, 20, 286, 406, 401, 410, 896, 1193, 1194, 1195, 1196, 1216, 1217, 1218, 1219, 1220, 1221, 1229, 1230, 1231, 1232, 1233, 1234, 1235, 1236, 1237, 1238, 1239, 1240, 1241, 1242, 1243, 1244, 1245, 1246] rfl (by decide +kernel)
set_option maxRecDepth 20000 in
theorem gL_law_X8_meanWindow : GoodIn wsL_law (wsV RL 279 RX8 yX8_meanWindow wsX8_meanWindow) := goodIn_app (goodIn_r _ [1080, 1081, 1082, 2] rfl (by decide +kernel)) ggL_law_X8_meanWindow
set_option maxHeartbeats 4000000 in
set_option maxRecDepth 20000 in
theorem ggL_law_X11_meanWindow : GoodIn wsL_law wsX11_meanWindow := goodIn_r _ [1087, 150, 92, 1197, 1198, 1199, 1200, 1201, 1202, 1203, 1204, 1205, 1206, 1256, 1257, 1258, 1259, 1260, 1261, 1262, 1263, 1264, 1265, 1266, 1267, 1268] rfl (by decide +kernel)
set_option maxRecDepth 20000 in
theorem gL_law_X11_meanWindow : GoodIn wsL_law (wsV RL 283 RX11 yX11_meanWindow wsX11_meanWindow) := goodIn_app (goodIn_r _ [1084, 1085, 1086, 5] rfl (by decide +kernel)) ggL_law_X11_meanWindow
set_option maxHeartbeats 4000000 in
set_option maxRecDepth 20000 in
theorem ggL_law_L_ticksUntil : GoodIn wsL_law wsL_ticksUntil := goodIn_ca (goodIn_ca (goodIn_r _ [1090, 176, 177, 1091, 1092, 1093, 2, 1094, 431, 21, 20, 406, 401, 397, 398, 399, 400, 402, 403, 404, 405, 189, 190, 286, 191, 192, 193, 182, 183, 1095, 1096, 1097, 19, 1098, 45, 514, 42, 291, 44, 297, 242, 1099, 1100, 1101, 47, 1102, 54, 1103, 370, 371, 372, 343, 247, 55, 248, 638, 636, 1104, 1105, 1106, 49, 1107, 1108, 1109, 62, 66, 1110, 1111, 1112, 61, 1113, 302, 437, 436, 545, 546, 303, 304, 305, 551, 306, 308, 544, 579, 73, 1114, 1115, 1116, 72, 1117, 313, 314, 315, 316, 317, 1118, 1119, 1120, 65, 1121, 469, 470, 468, 80, 1122, 506, 507, 508, 509, 510, 511, 512, 513, 515, 330, 516, 517, 518, 519, 520, 521, 522, 523, 524, 525, 526, 527, 292, 293, 296, 294, 528, 529, 324, 530, 531, 532, 533, 326, 327, 328, 329, 331, 332, 333, 334, 15, 335, 35, 142, 33, 30, 198, 199, 200, 201, 28, 29, 336, 337, 338, 339, 340, 341, 342, 534, 535, 536, 537, 538, 539, 540, 541, 542, 543, 547, 548, 549, 550, 307, 552, 553, 554, 555, 556, 557, 163, 558, 559, 472, 473, 560, 162, 164, 561, 562, 563, 564, 565, 566, 567, 568, 569, 570, 571, 572, 573, 574, 575, 576, 577, 578, 580, 581, 582, 583, 584, 585, 586, 587, 588, 322, 323, 325, 589, 590, 591, 592, 593, 475, 476, 477, 478, 479, 465, 466, 467, 471, 594, 595, 596, 597, 598, 599, 600, 601, 602, 603, 604, 605, 606, 607, 318, 319, 320, 321, 608, 609, 610, 611, 612, 613, 614, 615, 616, 617, 433, 434, 435, 618, 619, 620, 621, 622, 623, 624, 625, 626, 627, 628, 629, 630, 631, 632, 633, 634, 635, 637, 1233, 1234, 1235, 1236, 1237, 1238, 1239, 1240, 1241, 1242, 1243, 1244, 1245, 1246, 1193, 1194, 1195, 1196, 1216, 1217, 1218, 1219, 1220, 1221, 1229, 1230, 1231, 1232, 1207, 1208, 1209, 1210, 1211, 1212, 1213, 1214, 1215, 1222, 1223, 1224, 1225, 1226, 1227, 1228, 1251, 1252, 1253, 1254, 1255, 1247, 1248, 1249, 1250] rfl (by decide +kernel)) (goodIn_sub (fun _ h => List.mem_append_right _ h) (by decide +kernel))) (goodIn_sub (fun _ h => List.mem_append_left _ (List.mem_append_right _ h)) (by decide +kernel))
set_option maxRecDepth 20000 in
theorem gL_law_L_ticksUntil : GoodIn wsL_law (va_wsS RL 284 yL_ticksUntil wsL_ticksUntil) := goodIn_app (goodIn_r _ [1088, 1089, 119] rfl (by decide +kernel)) ggL_law_L_ticksUntil
set_option maxHeartbeats 4000000 in
set_option maxRecDepth 20000 in
theorem ggL_law_X11_ticksUntil : GoodIn wsL_law wsX11_ticksUntil := goodIn_r _ [1126, 150, 93, 92, 416, 417, 418, 5, 419, 215, 216, 217, 152, 153, 154, 155, 1127, 1128, 1129, 91, 1130, 388, 261, 647, 99, 1131, 370, 371, 372, 105, 106, 101, 103, 104, 107, 108, 110, 1132, 1133, 1134, 112, 1135, 116, 368, 23, 369, 643, 644, 645, 646, 97, 648, 649, 650, 651, 652, 653, 654, 655, 373, 374, 167, 375, 376, 377, 378, 379, 380, 381, 382, 162, 163, 164, 383, 356, 357, 358, 359, 360, 361, 362, 363, 160, 364, 365, 366, 367, 656, 657, 658, 659, 660, 661, 662, 663, 493, 472, 473, 161, 664, 665, 666, 667, 668, 557, 558, 669, 670, 671, 672, 673, 674, 675, 676, 352, 353, 354, 355, 384, 385, 386, 387, 677, 678, 679, 680, 681, 682, 683, 684, 685, 686, 687, 688, 689, 494, 495, 496, 497, 490, 491, 492, 690, 691, 692, 693, 694, 695, 696, 697, 698, 699, 700, 701, 702, 443, 444, 445, 703, 704, 705, 706, 1197, 1198, 1199, 1200, 1201, 1202, 1203, 1204, 1205, 1206, 1256, 1257, 1258, 1259, 1260, 1261, 1262, 1263, 1264, 1265, 1266, 1267, 1268, 1269, 1270] rfl (by decide +kernel)
set_option maxRecDepth 20000 in
theorem gL_law_X11_ticksUntil : GoodIn wsL_law (wsV RL 286 RX11 yX11_ticksUntil wsX11_ticksUntil) := goodIn_app (goodIn_r _ [1123, 1124, 1125, 5] rfl (by decide +kernel)) ggL_law_X11_ticksUntil
set_option maxHeartbeats 4000000 in
set_option maxRecDepth 20000 in
theorem ggL_law_L_lostIn : GoodIn wsL_law wsL_lostIn := goodIn_ca (goodIn_r _ [1138, 177, 1139, 1140, 1141, 2, 1142, 21, 20, 815, 191, 192, 193, 182, 183, 1095, 1096, 1097, 19, 1098, 45, 514, 42, 291, 44, 297, 242, 1099, 1100, 1101, 47, 1102, 54, 1103, 370, 371, 372, 343, 247, 55, 248, 638, 636, 1104, 1105, 1106, 49, 1107, 1108, 1109, 62, 66, 1110, 1111, 1112, 61, 1113, 302, 437, 436, 545, 546, 303, 304, 305, 551, 306, 308, 544, 579, 73, 1114, 1115, 1116, 72, 1117, 313, 314, 315, 316, 317, 1118, 1119, 1120, 65, 1121, 469, 470, 468, 80, 1122, 506, 507, 508, 509, 510, 511, 512, 513, 515, 330, 516, 517, 518, 519, 520, 521, 522, 523, 524, 525, 526, 527, 292, 293, 296, 294, 528, 529, 324, 530, 531, 532, 533, 326, 327, 328, 329, 331, 332, 333, 334, 15, 335, 35, 142, 33, 30, 198, 199, 200, 201, 28, 29, 336, 337, 338, 339, 340, 341, 342, 534, 535, 536, 537, 538, 539, 540, 541, 542, 543, 547, 548, 549, 550, 307, 552, 553, 554, 555, 556, 557, 163, 558, 559, 472, 473, 560, 162, 164, 561, 562, 563, 564, 565, 566, 567, 568, 569, 570, 571, 572, 573, 574, 575, 576, 577, 578, 580, 581, 582, 583, 584, 585, 586, 587, 588, 322, 323, 325, 589, 590, 591, 592, 593, 475, 476, 477, 478, 479, 465, 466, 467, 471, 594, 595, 596, 597, 598, 599, 600, 601, 602, 603, 604, 605, 606, 607, 318, 319, 320, 321, 608, 609, 610, 611, 612, 613, 614, 615, 616, 617, 433, 434, 435, 618, 619, 620, 621, 622, 623, 624, 625, 626, 627, 628, 629, 630, 631, 632, 633, 634, 635, 637, 1193, 1194, 1195, 1196, 1216, 1217, 1218, 1219, 1220, 1221, 1207, 1208, 1209, 1210, 1211, 1212, 1213, 1214, 1215, 1222, 1223, 1224, 1225, 1226, 1227, 1228, 1229, 1230, 1231, 1232, 1233, 1234, 1235, 1236, 1237, 1238, 1239, 1240, 1241, 1242, 1243, 1244, 1245, 1246, 1251, 1252, 1253, 1254, 1255, 1247, 1248, 1249, 1250] rfl (by decide +kernel)) (goodIn_sub (fun _ h => List.mem_append_left _ (List.mem_append_right _ h)) (by decide +kernel))
set_option maxRecDepth 20000 in
theorem gL_law_L_lostIn : GoodIn wsL_law (va_wsS RL 287 yL_lostIn wsL_lostIn) := goodIn_app (goodIn_r _ [1136, 1137, 119] rfl (by decide +kernel)) ggL_law_L_lostIn
set_option maxHeartbeats 4000000 in
set_option maxRecDepth 20000 in
theorem ggL_law_X11_lostIn : GoodIn wsL_law wsX11_lostIn := goodIn_r _ [1146, 150, 93, 92, 215, 216, 5, 217, 152, 153, 154, 155, 1127, 1128, 1129, 91, 1130, 388, 261, 647, 99, 1131, 370, 371, 372, 105, 106, 101, 103, 104, 107, 108, 110, 1132, 1133, 1134, 112, 1135, 116, 368, 23, 369, 643, 644, 645, 646, 97, 648, 649, 650, 651, 652, 653, 654, 655, 373, 374, 167, 375, 376, 377, 378, 379, 380, 381, 382, 162, 163, 164, 383, 356, 357, 358, 359, 360, 361, 362, 363, 160, 364, 365, 366, 367, 656, 657, 658, 659, 660, 661, 662, 663, 493, 472, 473, 161, 664, 665, 666, 667, 668, 557, 558, 669, 670, 671, 672, 673, 674, 675, 676, 352, 353, 354, 355, 384, 385, 386, 387, 677, 678, 679, 680, 681, 682, 683, 684, 685, 686, 687, 688, 689, 494, 495, 496, 497, 490, 491, 492, 690, 691, 692, 693, 694, 695, 696, 697, 698, 699, 700, 701, 702, 443, 444, 445, 703, 704, 705, 706, 1197, 1198, 1199, 1200, 1201, 1202, 1203, 1204, 1205, 1206, 1256, 1257, 1258, 1259, 1260, 1261, 1262, 1263, 1264, 1265, 1266, 1267, 1268, 1269, 1270] rfl (by decide +kernel)
set_option maxRecDepth 20000 in
theorem gL_law_X11_lostIn : GoodIn wsL_law (wsV RL 289 RX11 yX11_lostIn wsX11_lostIn) := goodIn_app (goodIn_r _ [1143, 1144, 1145, 5] rfl (by decide +kernel)) ggL_law_X11_lostIn
set_option maxHeartbeats 4000000 in
set_option maxRecDepth 20000 in
theorem ggL_law_L_distanceWithout : GoodIn wsL_law wsL_distanceWithout := goodIn_ca (goodIn_r _ [1149, 176, 1150, 1151, 1152, 2, 1153, 16, 1154, 230, 231, 232, 233, 189, 190, 184, 185, 186, 187, 188, 128, 1155, 139, 140, 15, 141, 133, 142, 33, 28, 29, 30, 143, 144, 145, 1193, 1194, 1195, 1196, 1207, 1208, 1209, 1210, 1211, 1212, 1213, 1214, 1215] rfl (by decide +kernel)) (goodIn_sub (fun _ h => List.mem_append_right _ h) (by decide +kernel))
set_option maxRecDepth 20000 in
theorem gL_law_L_distanceWithout : GoodIn wsL_law (va_wsS RL 290 yL_distanceWithout wsL_distanceWithout) := goodIn_app (goodIn_r _ [1147, 1148, 119] rfl (by decide +kernel)) ggL_law_L_distanceWithout
set_option maxHeartbeats 4000000 in
set_option maxRecDepth 20000 in
theorem ggL_law_X11_distanceWithout : GoodIn wsL_law wsX11_distanceWithout := goodIn_r _ [1159, 150, 93, 92, 253, 254, 255, 5, 256, 210, 215, 216, 217, 211, 212, 213, 214, 151, 152, 153, 154, 155, 1127, 1128, 1129, 91, 1130, 388, 261, 647, 99, 1131, 370, 371, 372, 105, 106, 101, 103, 104, 107, 108, 110, 1132, 1133, 1134, 112, 1135, 116, 368, 23, 369, 156, 157, 158, 159, 160, 97, 161, 162, 163, 164, 165, 166, 167, 168, 754, 755, 756, 757, 1197, 1198, 1199, 1200, 1201, 1202, 1203, 1204, 1205, 1206, 1256, 1257, 1258, 1259, 1260, 1261, 1262, 1263, 1264, 1265, 1266, 1267, 1268, 1269, 1270] rfl (by decide +kernel)
set_option maxRecDepth 20000 in
theorem gL_law_X11_distanceWithout : GoodIn wsL_law (wsV RL 292 RX11 yX11_distanceWithout wsX11_distanceWithout) := goodIn_app (goodIn_r _ [1156, 1157, 1158, 5] rfl (by decide +kernel)) ggL_law_X11_distanceWithout
set_option maxHeartbeats 4000000 in
set_option maxRecDepth 20000 in
theorem ggL_law_X8_digest : GoodIn wsL_law wsX8_digest := goodIn_r _ [1163, 1164, 1165, 16, 184, 20, 286, 406, 401, 128, 749, 1166, 708, 709, 2, 710, 505, 1167, 716, 717, 718, 1168, 724, 725, 726, 1169, 812, 813, 814, 815, 1170, 821, 822, 823, 274, 778, 794, 1171, 833, 834, 835, 1172, 1173, 1174, 1175, 229, 806, 1176, 1177, 1178, 410, 396, 431, 884, 896, 908, 920, 932, 944, 956, 957, 969, 981, 993, 1005, 1017, 1029, 1179, 1180, 1181, 454, 1041, 455, 456, 457, 458, 49, 459, 66, 460, 62, 461, 462, 162, 163, 164, 463, 1193, 1194, 1195, 1196, 1207, 1208, 1209, 1210, 1211, 1212, 1213, 1214, 1215, 1216, 1217, 1218, 1219, 1220, 1221, 1229, 1230, 1231, 1232, 1222, 1223, 1224, 1225, 1226, 1227, 1228, 1233, 1234, 1235, 1236, 1237, 1238, 1239, 1240, 1241, 1242, 1243, 1244, 1245, 1246, 1251, 1252, 1253, 1254, 1255, 1247, 1248, 1249, 1250] rfl (by decide +kernel)
set_option maxRecDepth 20000 in
theorem gL_law_X8_digest : GoodIn wsL_law (wsV RL 293 RX8 yX8_digest wsX8_digest) := goodIn_app (goodIn_r _ [1160, 1161, 1162, 2] rfl (by decide +kernel)) ggL_law_X8_digest
set_option maxHeartbeats 4000000 in
set_option maxRecDepth 20000 in
theorem ggL_law_X11_digest : GoodIn wsL_law wsX11_digest := goodIn_r _ [1185, 150, 1186, 1187, 23, 92, 151, 210, 828, 829, 830, 91, 831, 97, 103, 104, 1188, 1189, 1190, 5, 1191, 1192, 485, 486, 487, 488, 107, 161, 162, 163, 164, 754, 755, 756, 757, 101, 160, 1197, 1198, 1199, 1200, 1201, 1202, 1203, 1204, 1205, 1206, 1256, 1257, 1258, 1259, 1260, 1261, 1262, 1263, 1264, 1265, 1266, 1267, 1268, 1269, 1270] rfl (by decide +kernel)
set_option maxRecDepth 20000 in
theorem gL_law_X11_digest : GoodIn wsL_law (wsV RL 297 RX11 yX11_digest wsX11_digest) := goodIn_app (goodIn_r _ [1182, 1183, 1184, 5] rfl (by decide +kernel)) ggL_law_X11_digest
theorem dL_law_2412 : decode cL_law 2412 = .ok (.aload_n 1, 1) := by decide +kernel
theorem dL_law_2413 : decode cL_law 2413 = .ok (.aload_n 0, 1) := by decide +kernel
theorem dL_law_2414 : decode cL_law 2414 = .ok (.iload 4, 2) := by decide +kernel
theorem dL_law_2416 : decode cL_law 2416 = .ok (.iconst 1, 1) := by decide +kernel
theorem dL_law_2417 : decode cL_law 2417 = .ok (.iadd, 1) := by decide +kernel
theorem dL_law_2418 : decode cL_law 2418 = .ok (.iaload, 1) := by decide +kernel
theorem dL_law_2419 : decode cL_law 2419 = .ok (.aload_n 3, 1) := by decide +kernel
theorem dL_law_2420 : decode cL_law 2420 = .ok (.invokestatic 276, 3) := by decide +kernel
theorem dL_law_2423 : decode cL_law 2423 = .ok (.istore 5, 2) := by decide +kernel
theorem dL_law_2425 : decode cL_law 2425 = .ok (.aload_n 2, 1) := by decide +kernel
theorem dL_law_2426 : decode cL_law 2426 = .ok (.aload_n 0, 1) := by decide +kernel
theorem dL_law_2427 : decode cL_law 2427 = .ok (.iload 4, 2) := by decide +kernel
theorem dL_law_2429 : decode cL_law 2429 = .ok (.iconst 1, 1) := by decide +kernel
theorem dL_law_2430 : decode cL_law 2430 = .ok (.iadd, 1) := by decide +kernel
theorem dL_law_2431 : decode cL_law 2431 = .ok (.iaload, 1) := by decide +kernel
theorem dL_law_2432 : decode cL_law 2432 = .ok (.invokevirtual 278, 3) := by decide +kernel
theorem dL_law_2435 : decode cL_law 2435 = .ok (.istore 6, 2) := by decide +kernel
theorem dL_law_2437 : decode cL_law 2437 = .ok (.aload_n 2, 1) := by decide +kernel
theorem dL_law_2438 : decode cL_law 2438 = .ok (.invokevirtual 146, 3) := by decide +kernel
theorem dL_law_2441 : decode cL_law 2441 = .ok (.iload 5, 2) := by decide +kernel
theorem dL_law_2443 : decode cL_law 2443 = .ok (.if_icmp .eq 5, 3) := by decide +kernel
theorem dL_law_2446 : decode cL_law 2446 = .ok (.iconst 0, 1) := by decide +kernel
theorem dL_law_2448 : decode cL_law 2448 = .ok (.iload 5, 2) := by decide +kernel
theorem dL_law_2450 : decode cL_law 2450 = .ok (.ifCond .ne 15, 3) := by decide +kernel
theorem dL_law_2453 : decode cL_law 2453 = .ok (.aload_n 3, 1) := by decide +kernel
theorem dL_law_2454 : decode cL_law 2454 = .ok (.iconst 0, 1) := by decide +kernel
theorem dL_law_2455 : decode cL_law 2455 = .ok (.laload, 1) := by decide +kernel
theorem dL_law_2456 : decode cL_law 2456 = .ok (.iload 6, 2) := by decide +kernel
theorem dL_law_2458 : decode cL_law 2458 = .ok (.i2l, 1) := by decide +kernel
theorem dL_law_2459 : decode cL_law 2459 = .ok (.lcmp, 1) := by decide +kernel
theorem dL_law_2460 : decode cL_law 2460 = .ok (.ifCond .eq 5, 3) := by decide +kernel
theorem dL_law_2463 : decode cL_law 2463 = .ok (.iconst 0, 1) := by decide +kernel
theorem dL_law_2465 : decode cL_law 2465 = .ok (.goto 274, 3) := by decide +kernel
theorem dL_law_2468 : decode cL_law 2468 = .ok (.aload_n 1, 1) := by decide +kernel
theorem dL_law_2469 : decode cL_law 2469 = .ok (.invokevirtual 279, 3) := by decide +kernel
theorem dL_law_2472 : decode cL_law 2472 = .ok (.dstore 5, 2) := by decide +kernel
theorem dL_law_2474 : decode cL_law 2474 = .ok (.aload_n 2, 1) := by decide +kernel
theorem dL_law_2475 : decode cL_law 2475 = .ok (.invokevirtual 283, 3) := by decide +kernel
theorem dL_law_2478 : decode cL_law 2478 = .ok (.dstore 7, 2) := by decide +kernel
theorem dL_law_2480 : decode cL_law 2480 = .ok (.dload 5, 2) := by decide +kernel
theorem dL_law_2482 : decode cL_law 2482 = .ok (.dload 7, 2) := by decide +kernel
theorem dL_law_2484 : decode cL_law 2484 = .ok (.dcmp .l, 1) := by decide +kernel
theorem dL_law_2485 : decode cL_law 2485 = .ok (.ifCond .eq 21, 3) := by decide +kernel
theorem dL_law_2488 : decode cL_law 2488 = .ok (.dload 5, 2) := by decide +kernel
theorem dL_law_2490 : decode cL_law 2490 = .ok (.dload 5, 2) := by decide +kernel
theorem dL_law_2492 : decode cL_law 2492 = .ok (.dcmp .l, 1) := by decide +kernel
theorem dL_law_2493 : decode cL_law 2493 = .ok (.ifCond .eq 11, 3) := by decide +kernel
theorem dL_law_2496 : decode cL_law 2496 = .ok (.dload 7, 2) := by decide +kernel
theorem dL_law_2498 : decode cL_law 2498 = .ok (.dload 7, 2) := by decide +kernel
theorem dL_law_2500 : decode cL_law 2500 = .ok (.dcmp .l, 1) := by decide +kernel
theorem dL_law_2501 : decode cL_law 2501 = .ok (.ifCond .ne 5, 3) := by decide +kernel
theorem dL_law_2504 : decode cL_law 2504 = .ok (.iconst 0, 1) := by decide +kernel
theorem dL_law_2506 : decode cL_law 2506 = .ok (.goto 233, 3) := by decide +kernel
theorem dL_law_2509 : decode cL_law 2509 = .ok (.aload_n 1, 1) := by decide +kernel
theorem dL_law_2510 : decode cL_law 2510 = .ok (.aload_n 0, 1) := by decide +kernel
theorem dL_law_2511 : decode cL_law 2511 = .ok (.iload 4, 2) := by decide +kernel
theorem dL_law_2513 : decode cL_law 2513 = .ok (.iconst 1, 1) := by decide +kernel
theorem dL_law_2514 : decode cL_law 2514 = .ok (.iadd, 1) := by decide +kernel
theorem dL_law_2515 : decode cL_law 2515 = .ok (.iaload, 1) := by decide +kernel
theorem dL_law_2516 : decode cL_law 2516 = .ok (.aload_n 0, 1) := by decide +kernel
theorem dL_law_2517 : decode cL_law 2517 = .ok (.iload 4, 2) := by decide +kernel
theorem dL_law_2519 : decode cL_law 2519 = .ok (.iconst 2, 1) := by decide +kernel
theorem dL_law_2520 : decode cL_law 2520 = .ok (.iadd, 1) := by decide +kernel
theorem dL_law_2521 : decode cL_law 2521 = .ok (.iaload, 1) := by decide +kernel
theorem dL_law_2522 : decode cL_law 2522 = .ok (.aload_n 0, 1) := by decide +kernel
theorem dL_law_2523 : decode cL_law 2523 = .ok (.iload 4, 2) := by decide +kernel
theorem dL_law_2525 : decode cL_law 2525 = .ok (.iconst 3, 1) := by decide +kernel
theorem dL_law_2526 : decode cL_law 2526 = .ok (.iadd, 1) := by decide +kernel
theorem dL_law_2527 : decode cL_law 2527 = .ok (.iaload, 1) := by decide +kernel
theorem dL_law_2528 : decode cL_law 2528 = .ok (.aload_n 3, 1) := by decide +kernel
theorem dL_law_2529 : decode cL_law 2529 = .ok (.invokestatic 284, 3) := by decide +kernel
theorem dL_law_2532 : decode cL_law 2532 = .ok (.istore 5, 2) := by decide +kernel
theorem dL_law_2534 : decode cL_law 2534 = .ok (.aload_n 2, 1) := by decide +kernel
theorem dL_law_2535 : decode cL_law 2535 = .ok (.aload_n 0, 1) := by decide +kernel
theorem dL_law_2536 : decode cL_law 2536 = .ok (.iload 4, 2) := by decide +kernel
theorem dL_law_2538 : decode cL_law 2538 = .ok (.iconst 1, 1) := by decide +kernel
theorem dL_law_2539 : decode cL_law 2539 = .ok (.iadd, 1) := by decide +kernel
theorem dL_law_2540 : decode cL_law 2540 = .ok (.iaload, 1) := by decide +kernel
theorem dL_law_2541 : decode cL_law 2541 = .ok (.aload_n 0, 1) := by decide +kernel
theorem dL_law_2542 : decode cL_law 2542 = .ok (.iload 4, 2) := by decide +kernel
theorem dL_law_2544 : decode cL_law 2544 = .ok (.iconst 2, 1) := by decide +kernel
theorem dL_law_2545 : decode cL_law 2545 = .ok (.iadd, 1) := by decide +kernel
theorem dL_law_2546 : decode cL_law 2546 = .ok (.iaload, 1) := by decide +kernel
theorem dL_law_2547 : decode cL_law 2547 = .ok (.aload_n 0, 1) := by decide +kernel
theorem dL_law_2548 : decode cL_law 2548 = .ok (.iload 4, 2) := by decide +kernel
theorem dL_law_2550 : decode cL_law 2550 = .ok (.iconst 3, 1) := by decide +kernel
theorem dL_law_2551 : decode cL_law 2551 = .ok (.iadd, 1) := by decide +kernel
theorem dL_law_2552 : decode cL_law 2552 = .ok (.iaload, 1) := by decide +kernel
theorem dL_law_2553 : decode cL_law 2553 = .ok (.invokevirtual 286, 3) := by decide +kernel
theorem dL_law_2556 : decode cL_law 2556 = .ok (.istore 6, 2) := by decide +kernel
theorem dL_law_2558 : decode cL_law 2558 = .ok (.aload_n 2, 1) := by decide +kernel
theorem dL_law_2559 : decode cL_law 2559 = .ok (.invokevirtual 146, 3) := by decide +kernel
theorem dL_law_2562 : decode cL_law 2562 = .ok (.iload 5, 2) := by decide +kernel
theorem dL_law_2564 : decode cL_law 2564 = .ok (.if_icmp .eq 5, 3) := by decide +kernel
theorem dL_law_2567 : decode cL_law 2567 = .ok (.iconst 0, 1) := by decide +kernel
theorem dL_law_2569 : decode cL_law 2569 = .ok (.iload 5, 2) := by decide +kernel
theorem dL_law_2571 : decode cL_law 2571 = .ok (.ifCond .ne 15, 3) := by decide +kernel
theorem dL_law_2574 : decode cL_law 2574 = .ok (.aload_n 3, 1) := by decide +kernel
theorem dL_law_2575 : decode cL_law 2575 = .ok (.iconst 0, 1) := by decide +kernel
theorem dL_law_2576 : decode cL_law 2576 = .ok (.laload, 1) := by decide +kernel
theorem dL_law_2577 : decode cL_law 2577 = .ok (.iload 6, 2) := by decide +kernel
theorem dL_law_2579 : decode cL_law 2579 = .ok (.i2l, 1) := by decide +kernel
theorem dL_law_2580 : decode cL_law 2580 = .ok (.lcmp, 1) := by decide +kernel
theorem dL_law_2581 : decode cL_law 2581 = .ok (.ifCond .eq 5, 3) := by decide +kernel
theorem dL_law_2584 : decode cL_law 2584 = .ok (.iconst 0, 1) := by decide +kernel
theorem dL_law_2586 : decode cL_law 2586 = .ok (.goto 153, 3) := by decide +kernel
theorem dL_law_2589 : decode cL_law 2589 = .ok (.aload_n 1, 1) := by decide +kernel
theorem dL_law_2590 : decode cL_law 2590 = .ok (.aload_n 0, 1) := by decide +kernel
theorem dL_law_2591 : decode cL_law 2591 = .ok (.iload 4, 2) := by decide +kernel
theorem dL_law_2593 : decode cL_law 2593 = .ok (.iconst 1, 1) := by decide +kernel
theorem dL_law_2594 : decode cL_law 2594 = .ok (.iadd, 1) := by decide +kernel
theorem dL_law_2595 : decode cL_law 2595 = .ok (.iaload, 1) := by decide +kernel
theorem dL_law_2596 : decode cL_law 2596 = .ok (.aload_n 3, 1) := by decide +kernel
theorem dL_law_2597 : decode cL_law 2597 = .ok (.invokestatic 287, 3) := by decide +kernel
theorem dL_law_2600 : decode cL_law 2600 = .ok (.istore 5, 2) := by decide +kernel
theorem dL_law_2602 : decode cL_law 2602 = .ok (.aload_n 2, 1) := by decide +kernel
theorem dL_law_2603 : decode cL_law 2603 = .ok (.aload_n 0, 1) := by decide +kernel
theorem dL_law_2604 : decode cL_law 2604 = .ok (.iload 4, 2) := by decide +kernel
theorem dL_law_2606 : decode cL_law 2606 = .ok (.iconst 1, 1) := by decide +kernel
theorem dL_law_2607 : decode cL_law 2607 = .ok (.iadd, 1) := by decide +kernel
theorem dL_law_2608 : decode cL_law 2608 = .ok (.iaload, 1) := by decide +kernel
theorem dL_law_2609 : decode cL_law 2609 = .ok (.invokevirtual 289, 3) := by decide +kernel
theorem dL_law_2612 : decode cL_law 2612 = .ok (.istore 6, 2) := by decide +kernel
theorem dL_law_2614 : decode cL_law 2614 = .ok (.aload_n 2, 1) := by decide +kernel
theorem dL_law_2615 : decode cL_law 2615 = .ok (.invokevirtual 146, 3) := by decide +kernel
theorem dL_law_2618 : decode cL_law 2618 = .ok (.iload 5, 2) := by decide +kernel
theorem dL_law_2620 : decode cL_law 2620 = .ok (.if_icmp .eq 5, 3) := by decide +kernel
theorem dL_law_2623 : decode cL_law 2623 = .ok (.iconst 0, 1) := by decide +kernel
theorem dL_law_2625 : decode cL_law 2625 = .ok (.iload 5, 2) := by decide +kernel
theorem dL_law_2627 : decode cL_law 2627 = .ok (.ifCond .ne 15, 3) := by decide +kernel
theorem dL_law_2630 : decode cL_law 2630 = .ok (.aload_n 3, 1) := by decide +kernel
theorem dL_law_2631 : decode cL_law 2631 = .ok (.iconst 0, 1) := by decide +kernel
theorem dL_law_2632 : decode cL_law 2632 = .ok (.laload, 1) := by decide +kernel
theorem dL_law_2633 : decode cL_law 2633 = .ok (.iload 6, 2) := by decide +kernel
theorem dL_law_2635 : decode cL_law 2635 = .ok (.i2l, 1) := by decide +kernel
theorem dL_law_2636 : decode cL_law 2636 = .ok (.lcmp, 1) := by decide +kernel
theorem dL_law_2637 : decode cL_law 2637 = .ok (.ifCond .eq 5, 3) := by decide +kernel
theorem dL_law_2640 : decode cL_law 2640 = .ok (.iconst 0, 1) := by decide +kernel
theorem dL_law_2642 : decode cL_law 2642 = .ok (.goto 97, 3) := by decide +kernel
theorem dL_law_2645 : decode cL_law 2645 = .ok (.aload_n 1, 1) := by decide +kernel
theorem dL_law_2646 : decode cL_law 2646 = .ok (.aload_n 0, 1) := by decide +kernel
theorem dL_law_2647 : decode cL_law 2647 = .ok (.iload 4, 2) := by decide +kernel
theorem dL_law_2649 : decode cL_law 2649 = .ok (.iconst 1, 1) := by decide +kernel
theorem dL_law_2650 : decode cL_law 2650 = .ok (.iadd, 1) := by decide +kernel
theorem dL_law_2651 : decode cL_law 2651 = .ok (.iaload, 1) := by decide +kernel
theorem dL_law_2652 : decode cL_law 2652 = .ok (.aload_n 0, 1) := by decide +kernel
theorem dL_law_2653 : decode cL_law 2653 = .ok (.iload 4, 2) := by decide +kernel
theorem dL_law_2655 : decode cL_law 2655 = .ok (.iconst 2, 1) := by decide +kernel
theorem dL_law_2656 : decode cL_law 2656 = .ok (.iadd, 1) := by decide +kernel
theorem dL_law_2657 : decode cL_law 2657 = .ok (.iaload, 1) := by decide +kernel
theorem dL_law_2658 : decode cL_law 2658 = .ok (.aload_n 0, 1) := by decide +kernel
theorem dL_law_2659 : decode cL_law 2659 = .ok (.iload 4, 2) := by decide +kernel
theorem dL_law_2661 : decode cL_law 2661 = .ok (.iconst 3, 1) := by decide +kernel
theorem dL_law_2662 : decode cL_law 2662 = .ok (.iadd, 1) := by decide +kernel
theorem dL_law_2663 : decode cL_law 2663 = .ok (.iaload, 1) := by decide +kernel
theorem dL_law_2664 : decode cL_law 2664 = .ok (.aload_n 3, 1) := by decide +kernel
theorem dL_law_2665 : decode cL_law 2665 = .ok (.invokestatic 290, 3) := by decide +kernel
theorem dL_law_2668 : decode cL_law 2668 = .ok (.istore 5, 2) := by decide +kernel
theorem dL_law_2670 : decode cL_law 2670 = .ok (.aload_n 2, 1) := by decide +kernel
theorem dL_law_2671 : decode cL_law 2671 = .ok (.aload_n 0, 1) := by decide +kernel
theorem dL_law_2672 : decode cL_law 2672 = .ok (.iload 4, 2) := by decide +kernel
theorem dL_law_2674 : decode cL_law 2674 = .ok (.iconst 1, 1) := by decide +kernel
theorem dL_law_2675 : decode cL_law 2675 = .ok (.iadd, 1) := by decide +kernel
theorem dL_law_2676 : decode cL_law 2676 = .ok (.iaload, 1) := by decide +kernel
theorem dL_law_2677 : decode cL_law 2677 = .ok (.aload_n 0, 1) := by decide +kernel
theorem dL_law_2678 : decode cL_law 2678 = .ok (.iload 4, 2) := by decide +kernel
theorem dL_law_2680 : decode cL_law 2680 = .ok (.iconst 2, 1) := by decide +kernel
theorem dL_law_2681 : decode cL_law 2681 = .ok (.iadd, 1) := by decide +kernel
theorem dL_law_2682 : decode cL_law 2682 = .ok (.iaload, 1) := by decide +kernel
theorem dL_law_2683 : decode cL_law 2683 = .ok (.aload_n 0, 1) := by decide +kernel
theorem dL_law_2684 : decode cL_law 2684 = .ok (.iload 4, 2) := by decide +kernel
theorem dL_law_2686 : decode cL_law 2686 = .ok (.iconst 3, 1) := by decide +kernel
theorem dL_law_2687 : decode cL_law 2687 = .ok (.iadd, 1) := by decide +kernel
theorem dL_law_2688 : decode cL_law 2688 = .ok (.iaload, 1) := by decide +kernel
theorem dL_law_2689 : decode cL_law 2689 = .ok (.invokevirtual 292, 3) := by decide +kernel
theorem dL_law_2692 : decode cL_law 2692 = .ok (.istore 6, 2) := by decide +kernel
theorem dL_law_2694 : decode cL_law 2694 = .ok (.aload_n 2, 1) := by decide +kernel
theorem dL_law_2695 : decode cL_law 2695 = .ok (.invokevirtual 146, 3) := by decide +kernel
theorem dL_law_2698 : decode cL_law 2698 = .ok (.iload 5, 2) := by decide +kernel
theorem dL_law_2700 : decode cL_law 2700 = .ok (.if_icmp .eq 5, 3) := by decide +kernel
theorem dL_law_2703 : decode cL_law 2703 = .ok (.iconst 0, 1) := by decide +kernel
theorem dL_law_2705 : decode cL_law 2705 = .ok (.iload 5, 2) := by decide +kernel
theorem dL_law_2707 : decode cL_law 2707 = .ok (.ifCond .ne 15, 3) := by decide +kernel
theorem dL_law_2710 : decode cL_law 2710 = .ok (.aload_n 3, 1) := by decide +kernel
theorem dL_law_2711 : decode cL_law 2711 = .ok (.iconst 0, 1) := by decide +kernel
theorem dL_law_2712 : decode cL_law 2712 = .ok (.laload, 1) := by decide +kernel
theorem dL_law_2713 : decode cL_law 2713 = .ok (.iload 6, 2) := by decide +kernel
theorem dL_law_2715 : decode cL_law 2715 = .ok (.i2l, 1) := by decide +kernel
theorem dL_law_2716 : decode cL_law 2716 = .ok (.lcmp, 1) := by decide +kernel
theorem dL_law_2717 : decode cL_law 2717 = .ok (.ifCond .eq 5, 3) := by decide +kernel
theorem dL_law_2720 : decode cL_law 2720 = .ok (.iconst 0, 1) := by decide +kernel
theorem dL_law_2722 : decode cL_law 2722 = .ok (.goto 17, 3) := by decide +kernel
theorem dL_law_2725 : decode cL_law 2725 = .ok (.aload_n 1, 1) := by decide +kernel
theorem dL_law_2726 : decode cL_law 2726 = .ok (.invokevirtual 293, 3) := by decide +kernel
theorem dL_law_2729 : decode cL_law 2729 = .ok (.aload_n 2, 1) := by decide +kernel
theorem dL_law_2730 : decode cL_law 2730 = .ok (.invokevirtual 297, 3) := by decide +kernel
theorem dL_law_2733 : decode cL_law 2733 = .ok (.lcmp, 1) := by decide +kernel
theorem dL_law_2734 : decode cL_law 2734 = .ok (.ifCond .eq 5, 3) := by decide +kernel
theorem dL_law_2737 : decode cL_law 2737 = .ok (.iconst 0, 1) := by decide +kernel
