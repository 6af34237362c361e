set_option maxRecDepth 20000 in
theorem ggX13_same_X13_sizeOf_p0 : GoodIn wsX13_same [.code yX13_sizeOf cX13_sizeOf 7 (some .long)] := goodIn_r _ [20] (by decide +kernel) (by decide +kernel)
set_option maxRecDepth 20000 in
theorem ggX13_same_X13_sizeOf_p1 : GoodIn wsX13_same wsX13_sizeOf_r1 := goodIn_r _ [21, 16, 22, 23, 24, 25, 26, 27, 28, 29, 30, 9, 31, 32, 33, 34, 35, 36, 37, 38, 39, 40, 41, 42] (by decide +kernel) (by decide +kernel)
set_option maxRecDepth 20000 in
theorem ggX13_same_X13_sizeOf_p2 : GoodIn wsX13_same wsX13_sizeOf_r2 := goodIn_r _ [43, 44, 45, 46, 47, 48, 49, 50, 51, 52] (by decide +kernel) (by decide +kernel)
theorem ggX13_same_X13_sizeOf_p3 : GoodIn wsX13_same wsX130 := goodIn_sub iwX13_same_X13 (by decide +kernel)
theorem ggX13_same_X13_sizeOf : GoodIn wsX13_same wsX13_sizeOf := goodIn_cn ggX13_same_X13_sizeOf_p0 (goodIn_app (goodIn_app ggX13_same_X13_sizeOf_p1 ggX13_same_X13_sizeOf_p2) ggX13_same_X13_sizeOf_p3)
set_option maxRecDepth 20000 in
theorem gX13_same_X13_sizeOf : GoodIn wsX13_same (wsV RX13 218 RX13 yX13_sizeOf wsX13_sizeOf) := goodIn_app (goodIn_of _ (by decide +kernel)) ggX13_same_X13_sizeOf
set_option maxRecDepth 20000 in
set_option maxRecDepth 20000 in
theorem ggX13_same_X13_find_p0 : GoodIn wsX13_same [.code yX13_find cX13_find 7 (some .boolean)] := goodIn_r _ [56] (by decide +kernel) (by decide +kernel)
set_option maxRecDepth 20000 in
theorem ggX13_same_X13_find_p1 : GoodIn wsX13_same wsX13_find_r1 := goodIn_r _ [57, 58, 5, 59, 60, 16, 61, 17, 18, 19, 9, 20, 21, 22, 23, 24, 25, 26, 27, 28, 29, 30, 31, 32] (by decide +kernel) (by decide +kernel)
set_option maxRecDepth 20000 in
theorem ggX13_same_X13_find_p2 : GoodIn wsX13_same wsX13_find_r2 := goodIn_r _ [33, 34, 35, 36, 37, 38, 39, 40, 41, 42, 43, 44, 45, 46, 47, 48, 49, 50, 51, 52, 62, 63, 64, 65] (by decide +kernel) (by decide +kernel)
set_option maxRecDepth 20000 in
theorem ggX13_same_X13_find_p3 : GoodIn wsX13_same wsX13_find_r3 := goodIn_r _ [66, 67, 68, 69, 70, 71, 72, 73, 74, 75, 76, 77, 78, 79, 80, 81, 82, 83, 84, 85, 86, 87, 88, 2] (by decide +kernel) (by decide +kernel)
set_option maxRecDepth 20000 in
theorem ggX13_same_X13_find_p4 : GoodIn wsX13_same wsX13_find_r4 := goodIn_r _ [89, 90, 91, 92, 93, 94, 95, 96, 97, 98, 99, 100, 101, 102, 103, 104, 105, 106, 107, 108, 109, 110, 111, 112] (by decide +kernel) (by decide +kernel)
set_option maxRecDepth 20000 in
theorem ggX13_same_X13_find_p5 : GoodIn wsX13_same wsX13_find_r5 := goodIn_r _ [113, 114, 115, 116, 117, 118, 119, 120, 121, 122, 123, 124, 125, 126, 127, 128, 129, 130, 131, 132, 133, 134, 135, 136] (by decide +kernel) (by decide +kernel)
set_option maxRecDepth 20000 in
theorem ggX13_same_X13_find_p6 : GoodIn wsX13_same wsX13_find_r6 := goodIn_r _ [137, 138, 139, 140, 141, 142, 143, 144, 145, 146, 147, 148, 149, 150, 151, 152, 153, 154, 155, 156, 157, 158, 159, 160] (by decide +kernel) (by decide +kernel)
set_option maxRecDepth 20000 in
theorem ggX13_same_X13_find_p7 : GoodIn wsX13_same wsX13_find_r7 := goodIn_r _ [161, 162, 163, 164, 165, 166, 167, 168, 169, 170, 171, 172, 173, 174, 175, 176, 177, 178, 179, 180, 181, 182, 183, 184] (by decide +kernel) (by decide +kernel)
set_option maxRecDepth 20000 in
theorem ggX13_same_X13_find_p8 : GoodIn wsX13_same wsX13_find_r8 := goodIn_r _ [185, 186, 187, 188, 189, 190, 191, 192, 193, 194] (by decide +kernel) (by decide +kernel)
theorem ggX13_same_X13_find_p9 : GoodIn wsX13_same wsX130 := goodIn_sub iwX13_same_X13 (by decide +kernel)
theorem ggX13_same_X13_find : GoodIn wsX13_same wsX13_find := goodIn_cn ggX13_same_X13_find_p0 (goodIn_app (goodIn_app ggX13_same_X13_find_p1 (goodIn_app ggX13_same_X13_find_p2 (goodIn_app ggX13_same_X13_find_p3 (goodIn_app ggX13_same_X13_find_p4 (goodIn_app ggX13_same_X13_find_p5 (goodIn_app ggX13_same_X13_find_p6 (goodIn_app ggX13_same_X13_find_p7 ggX13_same_X13_find_p8))))))) ggX13_same_X13_find_p9)
set_option maxRecDepth 20000 in
theorem gX13_same_X13_find : GoodIn wsX13_same (wsV RX13 348 RX13 yX13_find wsX13_find) := goodIn_app (goodIn_of _ (by decide +kernel)) ggX13_same_X13_find
set_option maxRecDepth 20000 in
theorem ggX13_same_X13_keepFlat : GoodIn wsX13_same wsX13_keepFlat := goodIn_r _ [198, 3, 5, 199, 140, 200, 201, 202, 9, 203, 204, 205, 57, 218, 219, 220, 221, 222, 223, 224, 225, 226, 227, 228, 229, 230, 231, 232, 233, 234, 235, 236, 237, 238, 239, 240, 241, 242, 243, 244, 245, 246, 247, 248, 249, 250, 251, 252, 253, 254, 255, 256, 257, 258, 259, 260, 261, 262, 263, 264, 265, 266, 267, 268, 269, 270, 271, 272, 273, 274, 275, 276, 277, 278, 279, 280, 281, 282, 283, 284, 285, 286, 287, 288] (by decide +kernel) (by decide +kernel)
set_option maxRecDepth 20000 in
theorem gX13_same_X13_keepFlat : GoodIn wsX13_same (wsV RX13 371 RX13 yX13_keepFlat wsX13_keepFlat) := goodIn_app (goodIn_of _ (by decide +kernel)) ggX13_same_X13_keepFlat
set_option maxRecDepth 20000 in
theorem ggX13_same_X13_isWaived : GoodIn wsX13_same wsX13_isWaived := goodIn_r _ [203, 204, 205, 57, 140, 218, 219, 220, 221, 222, 223, 224, 225, 226, 227, 228, 229, 230, 231, 232, 233, 234, 235, 236, 237, 238, 239, 240, 241, 242, 243, 244, 245, 246, 247, 248, 249, 250, 251, 252, 253, 254, 255, 256, 257, 258, 259, 260, 261, 262, 263, 264, 265, 266, 267, 268, 269, 270, 271, 272, 273, 274, 275, 276, 277, 278, 279, 280, 281, 282, 283, 284, 285, 286, 287, 288] (by decide +kernel) (by decide +kernel)
set_option maxRecDepth 20000 in
theorem gX13_same_X13_isWaived : GoodIn wsX13_same (wsV RX13 327 RX13 yX13_isWaived wsX13_isWaived) := goodIn_app (goodIn_of _ (by decide +kernel)) ggX13_same_X13_isWaived
set_option maxRecDepth 20000 in
theorem ggX13_same_X13_isLaidOut_p0 : GoodIn wsX13_same [.code yX13_isLaidOut cX13_isLaidOut 6 (some .boolean)] := goodIn_r _ [209] (by decide +kernel) (by decide +kernel)
set_option maxRecDepth 20000 in
theorem ggX13_same_X13_isLaidOut_p1 : GoodIn wsX13_same wsX13_isLaidOut_r1 := goodIn_r _ [67, 140, 89, 24, 25, 21, 26, 68, 141, 142, 143, 9, 144, 98, 99, 75, 145, 102, 103, 104, 105, 106, 107, 108] (by decide +kernel) (by decide +kernel)
set_option maxRecDepth 20000 in
theorem ggX13_same_X13_isLaidOut_p2 : GoodIn wsX13_same wsX13_isLaidOut_r2 := goodIn_r _ [47, 48, 49, 50, 51, 52, 210, 211, 212, 213, 3, 199, 4, 76, 77, 78, 79, 214, 215, 216, 217] (by decide +kernel) (by decide +kernel)
theorem ggX13_same_X13_isLaidOut_p3 : GoodIn wsX13_same wsX130 := goodIn_sub iwX13_same_X13 (by decide +kernel)
theorem ggX13_same_X13_isLaidOut : GoodIn wsX13_same wsX13_isLaidOut := goodIn_cn ggX13_same_X13_isLaidOut_p0 (goodIn_app (goodIn_app ggX13_same_X13_isLaidOut_p1 ggX13_same_X13_isLaidOut_p2) ggX13_same_X13_isLaidOut_p3)
set_option maxRecDepth 20000 in
theorem gX13_same_X13_isLaidOut : GoodIn wsX13_same (wsV RX13 374 RX13 yX13_isLaidOut wsX13_isLaidOut) := goodIn_app (goodIn_of _ (by decide +kernel)) ggX13_same_X13_isLaidOut

